section
-- ===== PART A: goes FIRST, ahead of the names: the tables' words, and 'selects' of the private methods out of them =====
/-- a private method of a class that the tables say can be made, by its rows of tables_1 -/
def lw_okq (q : MethodName × Nat) : Prop := (q.1.cls ≠ "java/lang/invoke/MethodHandle" ∧ q.1.cls ≠ "java/lang/invoke/VarHandle") ∧ Cond.instantiable q.1.cls q.2 ∈ tables_1 ∧ Cond.privateMethod q.1 ∈ tables_1 ∧ Cond.instanceMethod q.1 ∈ tables_1
theorem lw_p0 : lw_okq (⟨"BirthStreet", "housesOnPage", "()I"⟩, 11) := ⟨⟨by decide +kernel, by decide +kernel⟩, List.mem_of_getElem? (i := 12) (by decide +kernel), List.mem_of_getElem? (i := 198) (by decide +kernel), List.mem_of_getElem? (i := 199) (by decide +kernel)⟩
theorem lw_p1 : lw_okq (⟨"BirthStreet", "isHouse", "(I)Z"⟩, 11) := ⟨⟨by decide +kernel, by decide +kernel⟩, List.mem_of_getElem? (i := 12) (by decide +kernel), List.mem_of_getElem? (i := 215) (by decide +kernel), List.mem_of_getElem? (i := 216) (by decide +kernel)⟩
theorem lw_p2 : lw_okq (⟨"BirthStreet", "numberNow", "(I)I"⟩, 11) := ⟨⟨by decide +kernel, by decide +kernel⟩, List.mem_of_getElem? (i := 12) (by decide +kernel), List.mem_of_getElem? (i := 219) (by decide +kernel), List.mem_of_getElem? (i := 220) (by decide +kernel)⟩
theorem lw_p3 : lw_okq (⟨"BirthStreet", "numberAt", "(LBirthStreet$Row;I)I"⟩, 11) := ⟨⟨by decide +kernel, by decide +kernel⟩, List.mem_of_getElem? (i := 12) (by decide +kernel), List.mem_of_getElem? (i := 223) (by decide +kernel), List.mem_of_getElem? (i := 224) (by decide +kernel)⟩
theorem lw_p4 : lw_okq (⟨"BirthStreet", "owedBy", "(I)I"⟩, 11) := ⟨⟨by decide +kernel, by decide +kernel⟩, List.mem_of_getElem? (i := 12) (by decide +kernel), List.mem_of_getElem? (i := 230) (by decide +kernel), List.mem_of_getElem? (i := 231) (by decide +kernel)⟩
theorem lw_p5 : lw_okq (⟨"BirthStreet", "houseWith", "(II)I"⟩, 11) := ⟨⟨by decide +kernel, by decide +kernel⟩, List.mem_of_getElem? (i := 12) (by decide +kernel), List.mem_of_getElem? (i := 234) (by decide +kernel), List.mem_of_getElem? (i := 235) (by decide +kernel)⟩
theorem lw_p6 : lw_okq (⟨"BirthStreet", "numberOn", "(II)I"⟩, 11) := ⟨⟨by decide +kernel, by decide +kernel⟩, List.mem_of_getElem? (i := 12) (by decide +kernel), List.mem_of_getElem? (i := 238) (by decide +kernel), List.mem_of_getElem? (i := 239) (by decide +kernel)⟩
theorem lw_p7 : lw_okq (⟨"BirthStreet", "turnInWalk", "(LBirthStreet$Row;I)I"⟩, 11) := ⟨⟨by decide +kernel, by decide +kernel⟩, List.mem_of_getElem? (i := 12) (by decide +kernel), List.mem_of_getElem? (i := 245) (by decide +kernel), List.mem_of_getElem? (i := 246) (by decide +kernel)⟩
theorem lw_p8 : lw_okq (⟨"BirthStreet", "bear", "(LBirthStreet$Row;I)V"⟩, 11) := ⟨⟨by decide +kernel, by decide +kernel⟩, List.mem_of_getElem? (i := 12) (by decide +kernel), List.mem_of_getElem? (i := 260) (by decide +kernel), List.mem_of_getElem? (i := 261) (by decide +kernel)⟩
theorem lw_p9 : lw_okq (⟨"BirthStreet", "lendsACradle", "(I)Z"⟩, 11) := ⟨⟨by decide +kernel, by decide +kernel⟩, List.mem_of_getElem? (i := 12) (by decide +kernel), List.mem_of_getElem? (i := 264) (by decide +kernel), List.mem_of_getElem? (i := 265) (by decide +kernel)⟩
theorem lw_p10 : lw_okq (⟨"BirthStreet", "growOlder", "(LBirthStreet$Row;)V"⟩, 11) := ⟨⟨by decide +kernel, by decide +kernel⟩, List.mem_of_getElem? (i := 12) (by decide +kernel), List.mem_of_getElem? (i := 278) (by decide +kernel), List.mem_of_getElem? (i := 279) (by decide +kernel)⟩
theorem lw_p11 : lw_okq (⟨"BirthStreet", "isDay", "(I)Z"⟩, 11) := ⟨⟨by decide +kernel, by decide +kernel⟩, List.mem_of_getElem? (i := 12) (by decide +kernel), List.mem_of_getElem? (i := 289) (by decide +kernel), List.mem_of_getElem? (i := 290) (by decide +kernel)⟩
theorem lw_p12 : lw_okq (⟨"BirthStreet", "lengthOfWalk", "(LBirthStreet$Row;)I"⟩, 11) := ⟨⟨by decide +kernel, by decide +kernel⟩, List.mem_of_getElem? (i := 12) (by decide +kernel), List.mem_of_getElem? (i := 301) (by decide +kernel), List.mem_of_getElem? (i := 302) (by decide +kernel)⟩
theorem lw_p13 : lw_okq (⟨"BirthStreet", "houseOfTurn", "(LBirthStreet$Row;I)I"⟩, 11) := ⟨⟨by decide +kernel, by decide +kernel⟩, List.mem_of_getElem? (i := 12) (by decide +kernel), List.mem_of_getElem? (i := 305) (by decide +kernel), List.mem_of_getElem? (i := 306) (by decide +kernel)⟩
theorem lw_p14 : lw_okq (⟨"BirthStreet", "cheapestSet", "(I)I"⟩, 11) := ⟨⟨by decide +kernel, by decide +kernel⟩, List.mem_of_getElem? (i := 12) (by decide +kernel), List.mem_of_getElem? (i := 324) (by decide +kernel), List.mem_of_getElem? (i := 325) (by decide +kernel)⟩
theorem lw_p15 : lw_okq (⟨"BirthStreet", "mayAllBear", "(I)Z"⟩, 11) := ⟨⟨by decide +kernel, by decide +kernel⟩, List.mem_of_getElem? (i := 12) (by decide +kernel), List.mem_of_getElem? (i := 334) (by decide +kernel), List.mem_of_getElem? (i := 335) (by decide +kernel)⟩
def lw_privs_1 : List (MethodName × Nat) := [(⟨"BirthStreet", "housesOnPage", "()I"⟩, 11), (⟨"BirthStreet", "isHouse", "(I)Z"⟩, 11), (⟨"BirthStreet", "numberNow", "(I)I"⟩, 11), (⟨"BirthStreet", "numberAt", "(LBirthStreet$Row;I)I"⟩, 11), (⟨"BirthStreet", "owedBy", "(I)I"⟩, 11), (⟨"BirthStreet", "houseWith", "(II)I"⟩, 11), (⟨"BirthStreet", "numberOn", "(II)I"⟩, 11), (⟨"BirthStreet", "turnInWalk", "(LBirthStreet$Row;I)I"⟩, 11), (⟨"BirthStreet", "bear", "(LBirthStreet$Row;I)V"⟩, 11), (⟨"BirthStreet", "lendsACradle", "(I)Z"⟩, 11), (⟨"BirthStreet", "growOlder", "(LBirthStreet$Row;)V"⟩, 11), (⟨"BirthStreet", "isDay", "(I)Z"⟩, 11), (⟨"BirthStreet", "lengthOfWalk", "(LBirthStreet$Row;)I"⟩, 11), (⟨"BirthStreet", "houseOfTurn", "(LBirthStreet$Row;I)I"⟩, 11), (⟨"BirthStreet", "cheapestSet", "(I)I"⟩, 11), (⟨"BirthStreet", "mayAllBear", "(I)Z"⟩, 11)]
theorem lw_r1 : ∀ q ∈ lw_privs_1, lw_okq q := List.forall_mem_cons.mpr ⟨lw_p0, List.forall_mem_cons.mpr ⟨lw_p1, List.forall_mem_cons.mpr ⟨lw_p2, List.forall_mem_cons.mpr ⟨lw_p3, List.forall_mem_cons.mpr ⟨lw_p4, List.forall_mem_cons.mpr ⟨lw_p5, List.forall_mem_cons.mpr ⟨lw_p6, List.forall_mem_cons.mpr ⟨lw_p7, List.forall_mem_cons.mpr ⟨lw_p8, List.forall_mem_cons.mpr ⟨lw_p9, List.forall_mem_cons.mpr ⟨lw_p10, List.forall_mem_cons.mpr ⟨lw_p11, List.forall_mem_cons.mpr ⟨lw_p12, List.forall_mem_cons.mpr ⟨lw_p13, List.forall_mem_cons.mpr ⟨lw_p14, List.forall_mem_cons.mpr ⟨lw_p15, fun _ h => absurd h List.not_mem_nil⟩⟩⟩⟩⟩⟩⟩⟩⟩⟩⟩⟩⟩⟩⟩⟩
theorem lw_p16 : lw_okq (⟨"BirthStreet", "numbersBy", "(I)I"⟩, 11) := ⟨⟨by decide +kernel, by decide +kernel⟩, List.mem_of_getElem? (i := 12) (by decide +kernel), List.mem_of_getElem? (i := 341) (by decide +kernel), List.mem_of_getElem? (i := 342) (by decide +kernel)⟩
theorem lw_p17 : lw_okq (⟨"BirthStreet", "allNumbers", "(LBirthStreet$Row;)I"⟩, 11) := ⟨⟨by decide +kernel, by decide +kernel⟩, List.mem_of_getElem? (i := 12) (by decide +kernel), List.mem_of_getElem? (i := 349) (by decide +kernel), List.mem_of_getElem? (i := 350) (by decide +kernel)⟩
theorem lw_p18 : lw_okq (⟨"BirthStreet", "canHaveBeen", "(I)Z"⟩, 11) := ⟨⟨by decide +kernel, by decide +kernel⟩, List.mem_of_getElem? (i := 12) (by decide +kernel), List.mem_of_getElem? (i := 369) (by decide +kernel), List.mem_of_getElem? (i := 370) (by decide +kernel)⟩
theorem lw_p19 : lw_okq (⟨"BirthStreet", "markPossibleDays", "()I"⟩, 11) := ⟨⟨by decide +kernel, by decide +kernel⟩, List.mem_of_getElem? (i := 12) (by decide +kernel), List.mem_of_getElem? (i := 377) (by decide +kernel), List.mem_of_getElem? (i := 378) (by decide +kernel)⟩
theorem lw_p20 : lw_okq (⟨"BirthStreet", "mostLeftBy", "(I)I"⟩, 11) := ⟨⟨by decide +kernel, by decide +kernel⟩, List.mem_of_getElem? (i := 12) (by decide +kernel), List.mem_of_getElem? (i := 381) (by decide +kernel), List.mem_of_getElem? (i := 382) (by decide +kernel)⟩
theorem lw_p21 : lw_okq (⟨"BirthStreet", "drawnHouse", "(I)I"⟩, 11) := ⟨⟨by decide +kernel, by decide +kernel⟩, List.mem_of_getElem? (i := 12) (by decide +kernel), List.mem_of_getElem? (i := 399) (by decide +kernel), List.mem_of_getElem? (i := 400) (by decide +kernel)⟩
theorem lw_p22 : lw_okq (⟨"BirthStreet", "bearIfMayBe", "(LBirthStreet$Row;I)V"⟩, 11) := ⟨⟨by decide +kernel, by decide +kernel⟩, List.mem_of_getElem? (i := 12) (by decide +kernel), List.mem_of_getElem? (i := 404) (by decide +kernel), List.mem_of_getElem? (i := 405) (by decide +kernel)⟩
theorem lw_p23 : lw_okq (⟨"BirthStreet", "unlikeNumbers", "()I"⟩, 11) := ⟨⟨by decide +kernel, by decide +kernel⟩, List.mem_of_getElem? (i := 12) (by decide +kernel), List.mem_of_getElem? (i := 425) (by decide +kernel), List.mem_of_getElem? (i := 426) (by decide +kernel)⟩
theorem lw_p24 : lw_okq (⟨"BirthStreet", "owedByAll", "()I"⟩, 11) := ⟨⟨by decide +kernel, by decide +kernel⟩, List.mem_of_getElem? (i := 12) (by decide +kernel), List.mem_of_getElem? (i := 429) (by decide +kernel), List.mem_of_getElem? (i := 430) (by decide +kernel)⟩
theorem lw_p25 : lw_okq (⟨"BirthStreet", "withHouse", "(JI)J"⟩, 11) := ⟨⟨by decide +kernel, by decide +kernel⟩, List.mem_of_getElem? (i := 12) (by decide +kernel), List.mem_of_getElem? (i := 438) (by decide +kernel), List.mem_of_getElem? (i := 439) (by decide +kernel)⟩
theorem lw_p26 : lw_okq (⟨"BirthStreetModel", "faultNow", "()I"⟩, 32) := ⟨⟨by decide +kernel, by decide +kernel⟩, List.mem_of_getElem? (i := 452) (by decide +kernel), List.mem_of_getElem? (i := 570) (by decide +kernel), List.mem_of_getElem? (i := 571) (by decide +kernel)⟩
theorem lw_p27 : lw_okq (⟨"BirthStreetModel", "isGood", "(I)Z"⟩, 32) := ⟨⟨by decide +kernel, by decide +kernel⟩, List.mem_of_getElem? (i := 452) (by decide +kernel), List.mem_of_getElem? (i := 574) (by decide +kernel), List.mem_of_getElem? (i := 575) (by decide +kernel)⟩
theorem lw_p28 : lw_okq (⟨"BirthStreetModel", "isHouse", "(I)Z"⟩, 32) := ⟨⟨by decide +kernel, by decide +kernel⟩, List.mem_of_getElem? (i := 452) (by decide +kernel), List.mem_of_getElem? (i := 589) (by decide +kernel), List.mem_of_getElem? (i := 590) (by decide +kernel)⟩
theorem lw_p29 : lw_okq (⟨"BirthStreetModel", "houseNow", "(II)I"⟩, 32) := ⟨⟨by decide +kernel, by decide +kernel⟩, List.mem_of_getElem? (i := 452) (by decide +kernel), List.mem_of_getElem? (i := 593) (by decide +kernel), List.mem_of_getElem? (i := 594) (by decide +kernel)⟩
theorem lw_p30 : lw_okq (⟨"BirthStreetModel", "number", "(I)I"⟩, 32) := ⟨⟨by decide +kernel, by decide +kernel⟩, List.mem_of_getElem? (i := 452) (by decide +kernel), List.mem_of_getElem? (i := 597) (by decide +kernel), List.mem_of_getElem? (i := 598) (by decide +kernel)⟩
theorem lw_p31 : lw_okq (⟨"BirthStreetModel", "numberBy", "(II)I"⟩, 32) := ⟨⟨by decide +kernel, by decide +kernel⟩, List.mem_of_getElem? (i := 452) (by decide +kernel), List.mem_of_getElem? (i := 601) (by decide +kernel), List.mem_of_getElem? (i := 602) (by decide +kernel)⟩
def lw_privs_2 : List (MethodName × Nat) := [(⟨"BirthStreet", "numbersBy", "(I)I"⟩, 11), (⟨"BirthStreet", "allNumbers", "(LBirthStreet$Row;)I"⟩, 11), (⟨"BirthStreet", "canHaveBeen", "(I)Z"⟩, 11), (⟨"BirthStreet", "markPossibleDays", "()I"⟩, 11), (⟨"BirthStreet", "mostLeftBy", "(I)I"⟩, 11), (⟨"BirthStreet", "drawnHouse", "(I)I"⟩, 11), (⟨"BirthStreet", "bearIfMayBe", "(LBirthStreet$Row;I)V"⟩, 11), (⟨"BirthStreet", "unlikeNumbers", "()I"⟩, 11), (⟨"BirthStreet", "owedByAll", "()I"⟩, 11), (⟨"BirthStreet", "withHouse", "(JI)J"⟩, 11), (⟨"BirthStreetModel", "faultNow", "()I"⟩, 32), (⟨"BirthStreetModel", "isGood", "(I)Z"⟩, 32), (⟨"BirthStreetModel", "isHouse", "(I)Z"⟩, 32), (⟨"BirthStreetModel", "houseNow", "(II)I"⟩, 32), (⟨"BirthStreetModel", "number", "(I)I"⟩, 32), (⟨"BirthStreetModel", "numberBy", "(II)I"⟩, 32)]
theorem lw_r2 : ∀ q ∈ lw_privs_2, lw_okq q := List.forall_mem_cons.mpr ⟨lw_p16, List.forall_mem_cons.mpr ⟨lw_p17, List.forall_mem_cons.mpr ⟨lw_p18, List.forall_mem_cons.mpr ⟨lw_p19, List.forall_mem_cons.mpr ⟨lw_p20, List.forall_mem_cons.mpr ⟨lw_p21, List.forall_mem_cons.mpr ⟨lw_p22, List.forall_mem_cons.mpr ⟨lw_p23, List.forall_mem_cons.mpr ⟨lw_p24, List.forall_mem_cons.mpr ⟨lw_p25, List.forall_mem_cons.mpr ⟨lw_p26, List.forall_mem_cons.mpr ⟨lw_p27, List.forall_mem_cons.mpr ⟨lw_p28, List.forall_mem_cons.mpr ⟨lw_p29, List.forall_mem_cons.mpr ⟨lw_p30, List.forall_mem_cons.mpr ⟨lw_p31, fun _ h => absurd h List.not_mem_nil⟩⟩⟩⟩⟩⟩⟩⟩⟩⟩⟩⟩⟩⟩⟩⟩
theorem lw_p32 : lw_okq (⟨"BirthStreetModel", "owes", "(I)I"⟩, 32) := ⟨⟨by decide +kernel, by decide +kernel⟩, List.mem_of_getElem? (i := 452) (by decide +kernel), List.mem_of_getElem? (i := 605) (by decide +kernel), List.mem_of_getElem? (i := 606) (by decide +kernel)⟩
theorem lw_p33 : lw_okq (⟨"BirthStreetModel", "houseOf", "(II)I"⟩, 32) := ⟨⟨by decide +kernel, by decide +kernel⟩, List.mem_of_getElem? (i := 452) (by decide +kernel), List.mem_of_getElem? (i := 609) (by decide +kernel), List.mem_of_getElem? (i := 610) (by decide +kernel)⟩
theorem lw_p34 : lw_okq (⟨"BirthStreetModel", "numberOn", "(II)I"⟩, 32) := ⟨⟨by decide +kernel, by decide +kernel⟩, List.mem_of_getElem? (i := 452) (by decide +kernel), List.mem_of_getElem? (i := 613) (by decide +kernel), List.mem_of_getElem? (i := 614) (by decide +kernel)⟩
theorem lw_p35 : lw_okq (⟨"BirthStreetModel", "orderOf", "(I)I"⟩, 32) := ⟨⟨by decide +kernel, by decide +kernel⟩, List.mem_of_getElem? (i := 452) (by decide +kernel), List.mem_of_getElem? (i := 617) (by decide +kernel), List.mem_of_getElem? (i := 618) (by decide +kernel)⟩
theorem lw_p36 : lw_okq (⟨"BirthStreetModel", "mayBirth", "(I)Z"⟩, 32) := ⟨⟨by decide +kernel, by decide +kernel⟩, List.mem_of_getElem? (i := 452) (by decide +kernel), List.mem_of_getElem? (i := 629) (by decide +kernel), List.mem_of_getElem? (i := 630) (by decide +kernel)⟩
theorem lw_p37 : lw_okq (⟨"BirthStreetModel", "ageNone", "(I)V"⟩, 32) := ⟨⟨by decide +kernel, by decide +kernel⟩, List.mem_of_getElem? (i := 452) (by decide +kernel), List.mem_of_getElem? (i := 633) (by decide +kernel), List.mem_of_getElem? (i := 634) (by decide +kernel)⟩
theorem lw_p38 : lw_okq (⟨"BirthStreetModel", "lends", "(I)Z"⟩, 32) := ⟨⟨by decide +kernel, by decide +kernel⟩, List.mem_of_getElem? (i := 452) (by decide +kernel), List.mem_of_getElem? (i := 637) (by decide +kernel), List.mem_of_getElem? (i := 638) (by decide +kernel)⟩
theorem lw_p39 : lw_okq (⟨"BirthStreetModel", "ageMore", "()V"⟩, 32) := ⟨⟨by decide +kernel, by decide +kernel⟩, List.mem_of_getElem? (i := 452) (by decide +kernel), List.mem_of_getElem? (i := 645) (by decide +kernel), List.mem_of_getElem? (i := 646) (by decide +kernel)⟩
theorem lw_p40 : lw_okq (⟨"BirthStreetModel", "isDay", "(I)Z"⟩, 32) := ⟨⟨by decide +kernel, by decide +kernel⟩, List.mem_of_getElem? (i := 452) (by decide +kernel), List.mem_of_getElem? (i := 653) (by decide +kernel), List.mem_of_getElem? (i := 654) (by decide +kernel)⟩
theorem lw_p41 : lw_okq (⟨"BirthStreetModel", "walkNow", "()I"⟩, 32) := ⟨⟨by decide +kernel, by decide +kernel⟩, List.mem_of_getElem? (i := 452) (by decide +kernel), List.mem_of_getElem? (i := 665) (by decide +kernel), List.mem_of_getElem? (i := 666) (by decide +kernel)⟩
theorem lw_p42 : lw_okq (⟨"BirthStreetModel", "cheapNow", "(II)I"⟩, 32) := ⟨⟨by decide +kernel, by decide +kernel⟩, List.mem_of_getElem? (i := 452) (by decide +kernel), List.mem_of_getElem? (i := 681) (by decide +kernel), List.mem_of_getElem? (i := 682) (by decide +kernel)⟩
theorem lw_p43 : lw_okq (⟨"BirthStreetModel", "save", "()V"⟩, 32) := ⟨⟨by decide +kernel, by decide +kernel⟩, List.mem_of_getElem? (i := 452) (by decide +kernel), List.mem_of_getElem? (i := 685) (by decide +kernel), List.mem_of_getElem? (i := 686) (by decide +kernel)⟩
theorem lw_p44 : lw_okq (⟨"BirthStreetModel", "numbersBy", "(I)I"⟩, 32) := ⟨⟨by decide +kernel, by decide +kernel⟩, List.mem_of_getElem? (i := 452) (by decide +kernel), List.mem_of_getElem? (i := 692) (by decide +kernel), List.mem_of_getElem? (i := 693) (by decide +kernel)⟩
theorem lw_p45 : lw_okq (⟨"BirthStreetModel", "numbersAll", "()I"⟩, 32) := ⟨⟨by decide +kernel, by decide +kernel⟩, List.mem_of_getElem? (i := 452) (by decide +kernel), List.mem_of_getElem? (i := 699) (by decide +kernel), List.mem_of_getElem? (i := 700) (by decide +kernel)⟩
theorem lw_p46 : lw_okq (⟨"BirthStreetModel", "load", "()V"⟩, 32) := ⟨⟨by decide +kernel, by decide +kernel⟩, List.mem_of_getElem? (i := 452) (by decide +kernel), List.mem_of_getElem? (i := 703) (by decide +kernel), List.mem_of_getElem? (i := 704) (by decide +kernel)⟩
theorem lw_p47 : lw_okq (⟨"BirthStreetModel", "whenNow", "(II)I"⟩, 32) := ⟨⟨by decide +kernel, by decide +kernel⟩, List.mem_of_getElem? (i := 452) (by decide +kernel), List.mem_of_getElem? (i := 712) (by decide +kernel), List.mem_of_getElem? (i := 713) (by decide +kernel)⟩
def lw_privs_3 : List (MethodName × Nat) := [(⟨"BirthStreetModel", "owes", "(I)I"⟩, 32), (⟨"BirthStreetModel", "houseOf", "(II)I"⟩, 32), (⟨"BirthStreetModel", "numberOn", "(II)I"⟩, 32), (⟨"BirthStreetModel", "orderOf", "(I)I"⟩, 32), (⟨"BirthStreetModel", "mayBirth", "(I)Z"⟩, 32), (⟨"BirthStreetModel", "ageNone", "(I)V"⟩, 32), (⟨"BirthStreetModel", "lends", "(I)Z"⟩, 32), (⟨"BirthStreetModel", "ageMore", "()V"⟩, 32), (⟨"BirthStreetModel", "isDay", "(I)Z"⟩, 32), (⟨"BirthStreetModel", "walkNow", "()I"⟩, 32), (⟨"BirthStreetModel", "cheapNow", "(II)I"⟩, 32), (⟨"BirthStreetModel", "save", "()V"⟩, 32), (⟨"BirthStreetModel", "numbersBy", "(I)I"⟩, 32), (⟨"BirthStreetModel", "numbersAll", "()I"⟩, 32), (⟨"BirthStreetModel", "load", "()V"⟩, 32), (⟨"BirthStreetModel", "whenNow", "(II)I"⟩, 32)]
theorem lw_r3 : ∀ q ∈ lw_privs_3, lw_okq q := List.forall_mem_cons.mpr ⟨lw_p32, List.forall_mem_cons.mpr ⟨lw_p33, List.forall_mem_cons.mpr ⟨lw_p34, List.forall_mem_cons.mpr ⟨lw_p35, List.forall_mem_cons.mpr ⟨lw_p36, List.forall_mem_cons.mpr ⟨lw_p37, List.forall_mem_cons.mpr ⟨lw_p38, List.forall_mem_cons.mpr ⟨lw_p39, List.forall_mem_cons.mpr ⟨lw_p40, List.forall_mem_cons.mpr ⟨lw_p41, List.forall_mem_cons.mpr ⟨lw_p42, List.forall_mem_cons.mpr ⟨lw_p43, List.forall_mem_cons.mpr ⟨lw_p44, List.forall_mem_cons.mpr ⟨lw_p45, List.forall_mem_cons.mpr ⟨lw_p46, List.forall_mem_cons.mpr ⟨lw_p47, fun _ h => absurd h List.not_mem_nil⟩⟩⟩⟩⟩⟩⟩⟩⟩⟩⟩⟩⟩⟩⟩⟩
theorem lw_p48 : lw_okq (⟨"BirthStreetModel", "daysNow", "(I)I"⟩, 32) := ⟨⟨by decide +kernel, by decide +kernel⟩, List.mem_of_getElem? (i := 452) (by decide +kernel), List.mem_of_getElem? (i := 728) (by decide +kernel), List.mem_of_getElem? (i := 729) (by decide +kernel)⟩
theorem lw_p49 : lw_okq (⟨"BirthStreetModel", "isHeard", "(I)Z"⟩, 32) := ⟨⟨by decide +kernel, by decide +kernel⟩, List.mem_of_getElem? (i := 452) (by decide +kernel), List.mem_of_getElem? (i := 732) (by decide +kernel), List.mem_of_getElem? (i := 733) (by decide +kernel)⟩
theorem lw_p50 : lw_okq (⟨"BirthStreetModel", "askNow", "()I"⟩, 32) := ⟨⟨by decide +kernel, by decide +kernel⟩, List.mem_of_getElem? (i := 452) (by decide +kernel), List.mem_of_getElem? (i := 740) (by decide +kernel), List.mem_of_getElem? (i := 741) (by decide +kernel)⟩
theorem lw_p51 : lw_okq (⟨"BirthStreetModel", "worstOf", "(I)I"⟩, 32) := ⟨⟨by decide +kernel, by decide +kernel⟩, List.mem_of_getElem? (i := 452) (by decide +kernel), List.mem_of_getElem? (i := 744) (by decide +kernel), List.mem_of_getElem? (i := 745) (by decide +kernel)⟩
theorem lw_p52 : lw_okq (⟨"BirthStreetModel", "yearsNow", "(III)I"⟩, 32) := ⟨⟨by decide +kernel, by decide +kernel⟩, List.mem_of_getElem? (i := 452) (by decide +kernel), List.mem_of_getElem? (i := 752) (by decide +kernel), List.mem_of_getElem? (i := 753) (by decide +kernel)⟩
theorem lw_p53 : lw_okq (⟨"BirthStreetModel", "draw", "(I)I"⟩, 32) := ⟨⟨by decide +kernel, by decide +kernel⟩, List.mem_of_getElem? (i := 452) (by decide +kernel), List.mem_of_getElem? (i := 756) (by decide +kernel), List.mem_of_getElem? (i := 757) (by decide +kernel)⟩
theorem lw_p54 : lw_okq (⟨"BirthStreetModel", "howMany", "(I)I"⟩, 32) := ⟨⟨by decide +kernel, by decide +kernel⟩, List.mem_of_getElem? (i := 452) (by decide +kernel), List.mem_of_getElem? (i := 776) (by decide +kernel), List.mem_of_getElem? (i := 777) (by decide +kernel)⟩
theorem lw_p55 : lw_okq (⟨"BirthStreetModel", "unlike", "()I"⟩, 32) := ⟨⟨by decide +kernel, by decide +kernel⟩, List.mem_of_getElem? (i := 452) (by decide +kernel), List.mem_of_getElem? (i := 780) (by decide +kernel), List.mem_of_getElem? (i := 781) (by decide +kernel)⟩
theorem lw_p56 : lw_okq (⟨"BirthStreetModel", "owesAll", "()I"⟩, 32) := ⟨⟨by decide +kernel, by decide +kernel⟩, List.mem_of_getElem? (i := 452) (by decide +kernel), List.mem_of_getElem? (i := 784) (by decide +kernel), List.mem_of_getElem? (i := 785) (by decide +kernel)⟩
theorem lw_p57 : lw_okq (⟨"BirthStreetModel", "mixHouse", "(I)V"⟩, 32) := ⟨⟨by decide +kernel, by decide +kernel⟩, List.mem_of_getElem? (i := 452) (by decide +kernel), List.mem_of_getElem? (i := 793) (by decide +kernel), List.mem_of_getElem? (i := 794) (by decide +kernel)⟩
theorem lw_p58 : lw_okq (⟨"BirthStreetModel", "mix", "(J)V"⟩, 32) := ⟨⟨by decide +kernel, by decide +kernel⟩, List.mem_of_getElem? (i := 452) (by decide +kernel), List.mem_of_getElem? (i := 797) (by decide +kernel), List.mem_of_getElem? (i := 798) (by decide +kernel)⟩
def lw_privs_4 : List (MethodName × Nat) := [(⟨"BirthStreetModel", "daysNow", "(I)I"⟩, 32), (⟨"BirthStreetModel", "isHeard", "(I)Z"⟩, 32), (⟨"BirthStreetModel", "askNow", "()I"⟩, 32), (⟨"BirthStreetModel", "worstOf", "(I)I"⟩, 32), (⟨"BirthStreetModel", "yearsNow", "(III)I"⟩, 32), (⟨"BirthStreetModel", "draw", "(I)I"⟩, 32), (⟨"BirthStreetModel", "howMany", "(I)I"⟩, 32), (⟨"BirthStreetModel", "unlike", "()I"⟩, 32), (⟨"BirthStreetModel", "owesAll", "()I"⟩, 32), (⟨"BirthStreetModel", "mixHouse", "(I)V"⟩, 32), (⟨"BirthStreetModel", "mix", "(J)V"⟩, 32)]
theorem lw_r4 : ∀ q ∈ lw_privs_4, lw_okq q := List.forall_mem_cons.mpr ⟨lw_p48, List.forall_mem_cons.mpr ⟨lw_p49, List.forall_mem_cons.mpr ⟨lw_p50, List.forall_mem_cons.mpr ⟨lw_p51, List.forall_mem_cons.mpr ⟨lw_p52, List.forall_mem_cons.mpr ⟨lw_p53, List.forall_mem_cons.mpr ⟨lw_p54, List.forall_mem_cons.mpr ⟨lw_p55, List.forall_mem_cons.mpr ⟨lw_p56, List.forall_mem_cons.mpr ⟨lw_p57, List.forall_mem_cons.mpr ⟨lw_p58, fun _ h => absurd h List.not_mem_nil⟩⟩⟩⟩⟩⟩⟩⟩⟩⟩⟩
def lw_privs : List (MethodName × Nat) := lw_privs_1 ++ (lw_privs_2 ++ (lw_privs_3 ++ (lw_privs_4)))
def lw_tbl : List Cond := k2_sels lw_privs ++ tables_1
theorem lw_privs_ok : ∀ q ∈ lw_privs, lw_okq q := by
  show ∀ q ∈ lw_privs_1 ++ (lw_privs_2 ++ (lw_privs_3 ++ (lw_privs_4))), lw_okq q
  exact List.forall_mem_append.mpr ⟨lw_r1, List.forall_mem_append.mpr ⟨lw_r2, List.forall_mem_append.mpr ⟨lw_r3, lw_r4⟩⟩⟩
def RX0 : String := "BirthStreet$Moment"
def TX0 : u_T := fun k => match k with
  | 0 => ("BirthStreet$Moment", "today", "I", false)
  | 1 => ("BirthStreet$Moment", "births", "I", false)
  | 2 => ("BirthStreet$Moment", "debts", "I", false)
  | 3 => ("BirthStreet$Moment", "heard", "I", false)
  | 4 => ("BirthStreet$Moment", "ages", "LBirthStreet$Row;", true)
  | 5 => ("BirthStreet$Moment", "pastAges", "LBirthStreet$Row;", true)
  | 6 => ("BirthStreet$Moment", "birthsIn", "LBirthStreet$Row;", true)
  | 7 => ("BirthStreet$Moment", "debtAmounts", "LBirthStreet$Row;", true)
  | 8 => ("BirthStreet$Moment", "debtNumbers", "LBirthStreet$Row;", true)
  | 9 => ("BirthStreet$Moment", "heardHouses", "LBirthStreet$Row;", true)
  | _ => ("BirthStreet$Moment", "heardNumbers", "LBirthStreet$Row;", true)
def tyX0 : Nat → FieldType := fun k => match k with
  | 0 => .int
  | 1 => .int
  | 2 => .int
  | 3 => .int
  | 4 => .object "BirthStreet$Row"
  | 5 => .object "BirthStreet$Row"
  | 6 => .object "BirthStreet$Row"
  | 7 => .object "BirthStreet$Row"
  | 8 => .object "BirthStreet$Row"
  | 9 => .object "BirthStreet$Row"
  | _ => .object "BirthStreet$Row"
abbrev wsX00 : List Cond := u_ws RX0 TX0 11
theorem nmX0 : ∀ a, a < 11 → ∀ b, b < 11 → a ≠ b → (TX0 a).2.1 ≠ (TX0 b).2.1 := by decide +kernel
theorem tyX0_ok : ∀ k, k < 11 → parseFieldDescriptor (TX0 k).2.2.1 = some (tyX0 k) := by decide +kernel
abbrev cX0_init : ByteArray := prog_2_method_1_code
def yX0_init : MethodName := ⟨RX0, "<init>", "()V"⟩
abbrev cX0_startAnew : ByteArray := prog_2_method_2_code
def yX0_startAnew : MethodName := ⟨RX0, "startAnew", "()V"⟩
abbrev cX0_take : ByteArray := prog_2_method_3_code
def yX0_take : MethodName := ⟨RX0, "take", "(LBirthStreet$Moment;)V"⟩
def RX1 : String := "BirthStreet$Row"
def TX1 : u_T := fun k => match k with
  | _ => ("BirthStreet$Row", "cells", "[I", true)
def tyX1 : Nat → FieldType := fun k => match k with
  | _ => .array .int
abbrev wsX10 : List Cond := u_ws RX1 TX1 1
theorem nmX1 : ∀ a, a < 1 → ∀ b, b < 1 → a ≠ b → (TX1 a).2.1 ≠ (TX1 b).2.1 := by decide +kernel
theorem tyX1_ok : ∀ k, k < 1 → parseFieldDescriptor (TX1 k).2.2.1 = some (tyX1 k) := by decide +kernel
abbrev cX1_init : ByteArray := prog_3_method_1_code
def yX1_init : MethodName := ⟨RX1, "<init>", "(I)V"⟩
abbrev cX1_at : ByteArray := prog_3_method_2_code
def yX1_at : MethodName := ⟨RX1, "at", "(I)I"⟩
abbrev cX1_put : ByteArray := prog_3_method_3_code
def yX1_put : MethodName := ⟨RX1, "put", "(II)V"⟩
abbrev cX1_add : ByteArray := prog_3_method_4_code
def yX1_add : MethodName := ⟨RX1, "add", "(II)V"⟩
abbrev cX1_clear : ByteArray := prog_3_method_5_code
def yX1_clear : MethodName := ⟨RX1, "clear", "()V"⟩
abbrev cX1_take : ByteArray := prog_3_method_6_code
def yX1_take : MethodName := ⟨RX1, "take", "(LBirthStreet$Row;)V"⟩
def RX2 : String := "BirthStreet"
def TX2 : u_T := fun k => match k with
  | 0 => ("BirthStreet", "page", "LBirthStreet$Row;", true)
  | 1 => ("BirthStreet", "letters", "I", false)
  | 2 => ("BirthStreet", "houses", "I", false)
  | 3 => ("BirthStreet", "streetsRead", "I", false)
  | 4 => ("BirthStreet", "kinds", "LBirthStreet$Row;", true)
  | 5 => ("BirthStreet", "now", "LBirthStreet$Moment;", true)
  | 6 => ("BirthStreet", "kept", "LBirthStreet$Moment;", true)
  | 7 => ("BirthStreet", "isKept", "Z", false)
  | 8 => ("BirthStreet", "wouldBe", "LBirthStreet$Row;", true)
  | 9 => ("BirthStreet", "possible", "LBirthStreet$Row;", true)
  | _ => ("BirthStreet", "tally", "LBirthStreet$Row;", true)
def tyX2 : Nat → FieldType := fun k => match k with
  | 0 => .object "BirthStreet$Row"
  | 1 => .int
  | 2 => .int
  | 3 => .int
  | 4 => .object "BirthStreet$Row"
  | 5 => .object "BirthStreet$Moment"
  | 6 => .object "BirthStreet$Moment"
  | 7 => .boolean
  | 8 => .object "BirthStreet$Row"
  | 9 => .object "BirthStreet$Row"
  | _ => .object "BirthStreet$Row"
abbrev wsX20 : List Cond := u_ws RX2 TX2 11
theorem nmX2 : ∀ a, a < 11 → ∀ b, b < 11 → a ≠ b → (TX2 a).2.1 ≠ (TX2 b).2.1 := by decide +kernel
theorem tyX2_ok : ∀ k, k < 11 → parseFieldDescriptor (TX2 k).2.2.1 = some (tyX2 k) := by decide +kernel
abbrev cX2_init : ByteArray := prog_1_method_1_code
def yX2_init : MethodName := ⟨RX2, "<init>", "()V"⟩
abbrev cX2_letter : ByteArray := prog_1_method_2_code
def yX2_letter : MethodName := ⟨RX2, "letter", "(I)I"⟩
abbrev cX2_blank : ByteArray := prog_1_method_3_code
def yX2_blank : MethodName := ⟨RX2, "blank", "()I"⟩
abbrev cX2_fault : ByteArray := prog_1_method_4_code
def yX2_fault : MethodName := ⟨RX2, "fault", "()I"⟩
abbrev cX2_street : ByteArray := prog_1_method_5_code
def yX2_street : MethodName := ⟨RX2, "street", "()I"⟩
abbrev cX2_about : ByteArray := prog_1_method_6_code
def yX2_about : MethodName := ⟨RX2, "about", "(II)I"⟩
abbrev cX2_as : ByteArray := prog_1_method_7_code
def yX2_as : MethodName := ⟨RX2, "as", "(II)I"⟩
abbrev cX2_birth : ByteArray := prog_1_method_8_code
def yX2_birth : MethodName := ⟨RX2, "birth", "(I)I"⟩
abbrev cX2_day : ByteArray := prog_1_method_9_code
def yX2_day : MethodName := ⟨RX2, "day", "()I"⟩
abbrev cX2_then : ByteArray := prog_1_method_10_code
def yX2_then : MethodName := ⟨RX2, "then", "(II)I"⟩
abbrev cX2_goesTo : ByteArray := prog_1_method_11_code
def yX2_goesTo : MethodName := ⟨RX2, "goesTo", "(II)I"⟩
abbrev cX2_walk : ByteArray := prog_1_method_12_code
def yX2_walk : MethodName := ⟨RX2, "walk", "()I"⟩
abbrev cX2_debt : ByteArray := prog_1_method_13_code
def yX2_debt : MethodName := ⟨RX2, "debt", "(II)I"⟩
abbrev cX2_pay : ByteArray := prog_1_method_14_code
def yX2_pay : MethodName := ⟨RX2, "pay", "()I"⟩
abbrev cX2_cheap : ByteArray := prog_1_method_15_code
def yX2_cheap : MethodName := ⟨RX2, "cheap", "(II)I"⟩
abbrev cX2_when : ByteArray := prog_1_method_16_code
def yX2_when : MethodName := ⟨RX2, "when", "(II)I"⟩
abbrev cX2_hear : ByteArray := prog_1_method_17_code
def yX2_hear : MethodName := ⟨RX2, "hear", "(II)I"⟩
abbrev cX2_forget : ByteArray := prog_1_method_18_code
def yX2_forget : MethodName := ⟨RX2, "forget", "()I"⟩
abbrev cX2_days : ByteArray := prog_1_method_19_code
def yX2_days : MethodName := ⟨RX2, "days", "(I)I"⟩
abbrev cX2_ask : ByteArray := prog_1_method_20_code
def yX2_ask : MethodName := ⟨RX2, "ask", "()I"⟩
abbrev cX2_years : ByteArray := prog_1_method_21_code
def yX2_years : MethodName := ⟨RX2, "years", "(III)I"⟩
abbrev cX2_image : ByteArray := prog_1_method_22_code
def yX2_image : MethodName := ⟨RX2, "image", "()I"⟩
abbrev cX2_restore : ByteArray := prog_1_method_23_code
def yX2_restore : MethodName := ⟨RX2, "restore", "()I"⟩
abbrev cX2_count : ByteArray := prog_1_method_24_code
def yX2_count : MethodName := ⟨RX2, "count", "(I)I"⟩
abbrev cX2_digest : ByteArray := prog_1_method_25_code
def yX2_digest : MethodName := ⟨RX2, "digest", "()J"⟩
abbrev cX2_withHouse : ByteArray := prog_1_method_26_code
def yX2_withHouse : MethodName := ⟨RX2, "withHouse", "(JI)J"⟩
abbrev cX2_with : ByteArray := prog_1_method_27_code
def yX2_with : MethodName := ⟨RX2, "with", "(JI)J"⟩
abbrev cX2_canStandAt : ByteArray := prog_1_method_28_code
def yX2_canStandAt : MethodName := ⟨RX2, "canStandAt", "(II)Z"⟩
abbrev cX2_kindOfLetter : ByteArray := prog_1_method_29_code
def yX2_kindOfLetter : MethodName := ⟨RX2, "kindOfLetter", "(I)I"⟩
abbrev cX2_housesOnPage : ByteArray := prog_1_method_30_code
def yX2_housesOnPage : MethodName := ⟨RX2, "housesOnPage", "()I"⟩
abbrev cX2_isA : ByteArray := prog_1_method_31_code
def yX2_isA : MethodName := ⟨RX2, "isA", "(II)Z"⟩
abbrev cX2_numberOf : ByteArray := prog_1_method_32_code
def yX2_numberOf : MethodName := ⟨RX2, "numberOf", "(II)I"⟩
abbrev cX2_ageNextDay : ByteArray := prog_1_method_33_code
def yX2_ageNextDay : MethodName := ⟨RX2, "ageNextDay", "(II)I"⟩
abbrev cX2_isHouse : ByteArray := prog_1_method_34_code
def yX2_isHouse : MethodName := ⟨RX2, "isHouse", "(I)Z"⟩
abbrev cX2_lendsACradle : ByteArray := prog_1_method_35_code
def yX2_lendsACradle : MethodName := ⟨RX2, "lendsACradle", "(I)Z"⟩
abbrev cX2_bear : ByteArray := prog_1_method_36_code
def yX2_bear : MethodName := ⟨RX2, "bear", "(LBirthStreet$Row;I)V"⟩
abbrev cX2_bearIfMayBe : ByteArray := prog_1_method_37_code
def yX2_bearIfMayBe : MethodName := ⟨RX2, "bearIfMayBe", "(LBirthStreet$Row;I)V"⟩
abbrev cX2_growOlder : ByteArray := prog_1_method_38_code
def yX2_growOlder : MethodName := ⟨RX2, "growOlder", "(LBirthStreet$Row;)V"⟩
abbrev cX2_numberAt : ByteArray := prog_1_method_39_code
def yX2_numberAt : MethodName := ⟨RX2, "numberAt", "(LBirthStreet$Row;I)I"⟩
abbrev cX2_allNumbers : ByteArray := prog_1_method_40_code
def yX2_allNumbers : MethodName := ⟨RX2, "allNumbers", "(LBirthStreet$Row;)I"⟩
abbrev cX2_turnInWalk : ByteArray := prog_1_method_41_code
def yX2_turnInWalk : MethodName := ⟨RX2, "turnInWalk", "(LBirthStreet$Row;I)I"⟩
abbrev cX2_houseOfTurn : ByteArray := prog_1_method_42_code
def yX2_houseOfTurn : MethodName := ⟨RX2, "houseOfTurn", "(LBirthStreet$Row;I)I"⟩
abbrev cX2_lengthOfWalk : ByteArray := prog_1_method_43_code
def yX2_lengthOfWalk : MethodName := ⟨RX2, "lengthOfWalk", "(LBirthStreet$Row;)I"⟩
abbrev cX2_isDay : ByteArray := prog_1_method_44_code
def yX2_isDay : MethodName := ⟨RX2, "isDay", "(I)Z"⟩
abbrev cX2_cellOf : ByteArray := prog_1_method_45_code
def yX2_cellOf : MethodName := ⟨RX2, "cellOf", "(II)I"⟩
abbrev cX2_numberNow : ByteArray := prog_1_method_46_code
def yX2_numberNow : MethodName := ⟨RX2, "numberNow", "(I)I"⟩
abbrev cX2_numberOn : ByteArray := prog_1_method_47_code
def yX2_numberOn : MethodName := ⟨RX2, "numberOn", "(II)I"⟩
abbrev cX2_houseWith : ByteArray := prog_1_method_48_code
def yX2_houseWith : MethodName := ⟨RX2, "houseWith", "(II)I"⟩
abbrev cX2_unlikeNumbers : ByteArray := prog_1_method_49_code
def yX2_unlikeNumbers : MethodName := ⟨RX2, "unlikeNumbers", "()I"⟩
abbrev cX2_owedBy : ByteArray := prog_1_method_50_code
def yX2_owedBy : MethodName := ⟨RX2, "owedBy", "(I)I"⟩
abbrev cX2_owedByAll : ByteArray := prog_1_method_51_code
def yX2_owedByAll : MethodName := ⟨RX2, "owedByAll", "()I"⟩
abbrev cX2_cheapestSet : ByteArray := prog_1_method_52_code
def yX2_cheapestSet : MethodName := ⟨RX2, "cheapestSet", "(I)I"⟩
abbrev cX2_isIn : ByteArray := prog_1_method_53_code
def yX2_isIn : MethodName := ⟨RX2, "isIn", "(II)Z"⟩
abbrev cX2_mayAllBear : ByteArray := prog_1_method_54_code
def yX2_mayAllBear : MethodName := ⟨RX2, "mayAllBear", "(I)Z"⟩
abbrev cX2_numbersBy : ByteArray := prog_1_method_55_code
def yX2_numbersBy : MethodName := ⟨RX2, "numbersBy", "(I)I"⟩
abbrev cX2_canHaveBeen : ByteArray := prog_1_method_56_code
def yX2_canHaveBeen : MethodName := ⟨RX2, "canHaveBeen", "(I)Z"⟩
abbrev cX2_markPossibleDays : ByteArray := prog_1_method_57_code
def yX2_markPossibleDays : MethodName := ⟨RX2, "markPossibleDays", "()I"⟩
abbrev cX2_mostLeftBy : ByteArray := prog_1_method_58_code
def yX2_mostLeftBy : MethodName := ⟨RX2, "mostLeftBy", "(I)I"⟩
abbrev cX2_nextSeed : ByteArray := prog_1_method_59_code
def yX2_nextSeed : MethodName := ⟨RX2, "nextSeed", "(I)I"⟩
abbrev cX2_drawnHouse : ByteArray := prog_1_method_60_code
def yX2_drawnHouse : MethodName := ⟨RX2, "drawnHouse", "(I)I"⟩
def RX3 : String := "BirthStreetModel"
def TX3 : u_T := fun k => match k with
  | 0 => ("BirthStreetModel", "streets", "I", false)
  | 1 => ("BirthStreetModel", "houses", "I", false)
  | 2 => ("BirthStreetModel", "kindOf", "[I", true)
  | 3 => ("BirthStreetModel", "ageOf", "[I", true)
  | 4 => ("BirthStreetModel", "birthsOf", "[I", true)
  | 5 => ("BirthStreetModel", "ageThen", "[I", true)
  | 6 => ("BirthStreetModel", "today", "I", false)
  | 7 => ("BirthStreetModel", "births", "I", false)
  | 8 => ("BirthStreetModel", "debts", "I", false)
  | 9 => ("BirthStreetModel", "debtMuch", "[I", true)
  | 10 => ("BirthStreetModel", "debtNumber", "[I", true)
  | 11 => ("BirthStreetModel", "heard", "I", false)
  | 12 => ("BirthStreetModel", "heardHouse", "[I", true)
  | 13 => ("BirthStreetModel", "heardNumber", "[I", true)
  | 14 => ("BirthStreetModel", "pageLength", "I", false)
  | 15 => ("BirthStreetModel", "page", "[B", true)
  | 16 => ("BirthStreetModel", "savedAge", "[I", true)
  | 17 => ("BirthStreetModel", "seedNow", "J", false)
  | 18 => ("BirthStreetModel", "isKept", "Z", false)
  | 19 => ("BirthStreetModel", "keptStreet", "I", false)
  | 20 => ("BirthStreetModel", "keptToday", "I", false)
  | 21 => ("BirthStreetModel", "keptBirths", "I", false)
  | 22 => ("BirthStreetModel", "keptDebts", "I", false)
  | 23 => ("BirthStreetModel", "keptHeard", "I", false)
  | 24 => ("BirthStreetModel", "keptAge", "[I", true)
  | 25 => ("BirthStreetModel", "keptBirthsOf", "[I", true)
  | 26 => ("BirthStreetModel", "keptThen", "[I", true)
  | 27 => ("BirthStreetModel", "keptMuch", "[I", true)
  | 28 => ("BirthStreetModel", "keptNumber", "[I", true)
  | 29 => ("BirthStreetModel", "keptHouse", "[I", true)
  | 30 => ("BirthStreetModel", "keptHeardNumber", "[I", true)
  | _ => ("BirthStreetModel", "h", "J", false)
def tyX3 : Nat → FieldType := fun k => match k with
  | 0 => .int
  | 1 => .int
  | 2 => .array .int
  | 3 => .array .int
  | 4 => .array .int
  | 5 => .array .int
  | 6 => .int
  | 7 => .int
  | 8 => .int
  | 9 => .array .int
  | 10 => .array .int
  | 11 => .int
  | 12 => .array .int
  | 13 => .array .int
  | 14 => .int
  | 15 => .array .byte
  | 16 => .array .int
  | 17 => .long
  | 18 => .boolean
  | 19 => .int
  | 20 => .int
  | 21 => .int
  | 22 => .int
  | 23 => .int
  | 24 => .array .int
  | 25 => .array .int
  | 26 => .array .int
  | 27 => .array .int
  | 28 => .array .int
  | 29 => .array .int
  | 30 => .array .int
  | _ => .long
abbrev wsX30 : List Cond := u_ws RX3 TX3 32
theorem nmX3 : ∀ a, a < 32 → ∀ b, b < 32 → a ≠ b → (TX3 a).2.1 ≠ (TX3 b).2.1 := by decide +kernel
theorem tyX3_ok : ∀ k, k < 32 → parseFieldDescriptor (TX3 k).2.2.1 = some (tyX3 k) := by decide +kernel
abbrev cX3_init : ByteArray := prog_5_method_1_code
def yX3_init : MethodName := ⟨RX3, "<init>", "()V"⟩
abbrev cX3_within : ByteArray := prog_5_method_3_code
def yX3_within : MethodName := ⟨RX3, "within", "(III)Z"⟩
abbrev cX3_isIn : ByteArray := prog_5_method_4_code
def yX3_isIn : MethodName := ⟨RX3, "isIn", "(II)Z"⟩
abbrev cX3_size : ByteArray := prog_5_method_5_code
def yX3_size : MethodName := ⟨RX3, "size", "(I)I"⟩
abbrev cX3_letter : ByteArray := prog_5_method_6_code
def yX3_letter : MethodName := ⟨RX3, "letter", "(I)I"⟩
abbrev cX3_blank : ByteArray := prog_5_method_7_code
def yX3_blank : MethodName := ⟨RX3, "blank", "()I"⟩
abbrev cX3_kindBy : ByteArray := prog_5_method_8_code
def yX3_kindBy : MethodName := ⟨RX3, "kindBy", "(I)I"⟩
abbrev cX3_isGood : ByteArray := prog_5_method_9_code
def yX3_isGood : MethodName := ⟨RX3, "isGood", "(I)Z"⟩
abbrev cX3_faultNow : ByteArray := prog_5_method_10_code
def yX3_faultNow : MethodName := ⟨RX3, "faultNow", "()I"⟩
abbrev cX3_fault : ByteArray := prog_5_method_11_code
def yX3_fault : MethodName := ⟨RX3, "fault", "()I"⟩
abbrev cX3_street : ByteArray := prog_5_method_12_code
def yX3_street : MethodName := ⟨RX3, "street", "()I"⟩
abbrev cX3_isHouse : ByteArray := prog_5_method_13_code
def yX3_isHouse : MethodName := ⟨RX3, "isHouse", "(I)Z"⟩
abbrev cX3_isDay : ByteArray := prog_5_method_14_code
def yX3_isDay : MethodName := ⟨RX3, "isDay", "(I)Z"⟩
abbrev cX3_numberBy : ByteArray := prog_5_method_15_code
def yX3_numberBy : MethodName := ⟨RX3, "numberBy", "(II)I"⟩
abbrev cX3_number : ByteArray := prog_5_method_16_code
def yX3_number : MethodName := ⟨RX3, "number", "(I)I"⟩
abbrev cX3_numberOn : ByteArray := prog_5_method_17_code
def yX3_numberOn : MethodName := ⟨RX3, "numberOn", "(II)I"⟩
abbrev cX3_mayBirth : ByteArray := prog_5_method_18_code
def yX3_mayBirth : MethodName := ⟨RX3, "mayBirth", "(I)Z"⟩
abbrev cX3_lends : ByteArray := prog_5_method_19_code
def yX3_lends : MethodName := ⟨RX3, "lends", "(I)Z"⟩
abbrev cX3_ageNone : ByteArray := prog_5_method_20_code
def yX3_ageNone : MethodName := ⟨RX3, "ageNone", "(I)V"⟩
abbrev cX3_ageMore : ByteArray := prog_5_method_21_code
def yX3_ageMore : MethodName := ⟨RX3, "ageMore", "()V"⟩
abbrev cX3_orderOf : ByteArray := prog_5_method_22_code
def yX3_orderOf : MethodName := ⟨RX3, "orderOf", "(I)I"⟩
abbrev cX3_walkNow : ByteArray := prog_5_method_23_code
def yX3_walkNow : MethodName := ⟨RX3, "walkNow", "()I"⟩
abbrev cX3_houseOf : ByteArray := prog_5_method_24_code
def yX3_houseOf : MethodName := ⟨RX3, "houseOf", "(II)I"⟩
abbrev cX3_owes : ByteArray := prog_5_method_25_code
def yX3_owes : MethodName := ⟨RX3, "owes", "(I)I"⟩
abbrev cX3_houseNow : ByteArray := prog_5_method_26_code
def yX3_houseNow : MethodName := ⟨RX3, "houseNow", "(II)I"⟩
abbrev cX3_about : ByteArray := prog_5_method_27_code
def yX3_about : MethodName := ⟨RX3, "about", "(II)I"⟩
abbrev cX3_as : ByteArray := prog_5_method_28_code
def yX3_as : MethodName := ⟨RX3, "as", "(II)I"⟩
abbrev cX3_birth : ByteArray := prog_5_method_29_code
def yX3_birth : MethodName := ⟨RX3, "birth", "(I)I"⟩
abbrev cX3_day : ByteArray := prog_5_method_30_code
def yX3_day : MethodName := ⟨RX3, "day", "()I"⟩
abbrev cX3_then : ByteArray := prog_5_method_31_code
def yX3_then : MethodName := ⟨RX3, "then", "(II)I"⟩
abbrev cX3_goesTo : ByteArray := prog_5_method_32_code
def yX3_goesTo : MethodName := ⟨RX3, "goesTo", "(II)I"⟩
abbrev cX3_walk : ByteArray := prog_5_method_33_code
def yX3_walk : MethodName := ⟨RX3, "walk", "()I"⟩
abbrev cX3_debt : ByteArray := prog_5_method_34_code
def yX3_debt : MethodName := ⟨RX3, "debt", "(II)I"⟩
abbrev cX3_pay : ByteArray := prog_5_method_35_code
def yX3_pay : MethodName := ⟨RX3, "pay", "()I"⟩
abbrev cX3_save : ByteArray := prog_5_method_36_code
def yX3_save : MethodName := ⟨RX3, "save", "()V"⟩
abbrev cX3_load : ByteArray := prog_5_method_37_code
def yX3_load : MethodName := ⟨RX3, "load", "()V"⟩
abbrev cX3_numbersAll : ByteArray := prog_5_method_38_code
def yX3_numbersAll : MethodName := ⟨RX3, "numbersAll", "()I"⟩
abbrev cX3_numbersBy : ByteArray := prog_5_method_39_code
def yX3_numbersBy : MethodName := ⟨RX3, "numbersBy", "(I)I"⟩
abbrev cX3_cheapNow : ByteArray := prog_5_method_40_code
def yX3_cheapNow : MethodName := ⟨RX3, "cheapNow", "(II)I"⟩
abbrev cX3_cheap : ByteArray := prog_5_method_41_code
def yX3_cheap : MethodName := ⟨RX3, "cheap", "(II)I"⟩
abbrev cX3_whenNow : ByteArray := prog_5_method_42_code
def yX3_whenNow : MethodName := ⟨RX3, "whenNow", "(II)I"⟩
abbrev cX3_when : ByteArray := prog_5_method_43_code
def yX3_when : MethodName := ⟨RX3, "when", "(II)I"⟩
abbrev cX3_hear : ByteArray := prog_5_method_44_code
def yX3_hear : MethodName := ⟨RX3, "hear", "(II)I"⟩
abbrev cX3_forget : ByteArray := prog_5_method_45_code
def yX3_forget : MethodName := ⟨RX3, "forget", "()I"⟩
abbrev cX3_isHeard : ByteArray := prog_5_method_46_code
def yX3_isHeard : MethodName := ⟨RX3, "isHeard", "(I)Z"⟩
abbrev cX3_daysNow : ByteArray := prog_5_method_47_code
def yX3_daysNow : MethodName := ⟨RX3, "daysNow", "(I)I"⟩
abbrev cX3_days : ByteArray := prog_5_method_48_code
def yX3_days : MethodName := ⟨RX3, "days", "(I)I"⟩
abbrev cX3_worstOf : ByteArray := prog_5_method_49_code
def yX3_worstOf : MethodName := ⟨RX3, "worstOf", "(I)I"⟩
abbrev cX3_askNow : ByteArray := prog_5_method_50_code
def yX3_askNow : MethodName := ⟨RX3, "askNow", "()I"⟩
abbrev cX3_ask : ByteArray := prog_5_method_51_code
def yX3_ask : MethodName := ⟨RX3, "ask", "()I"⟩
abbrev cX3_draw : ByteArray := prog_5_method_52_code
def yX3_draw : MethodName := ⟨RX3, "draw", "(I)I"⟩
abbrev cX3_yearsNow : ByteArray := prog_5_method_53_code
def yX3_yearsNow : MethodName := ⟨RX3, "yearsNow", "(III)I"⟩
abbrev cX3_years : ByteArray := prog_5_method_54_code
def yX3_years : MethodName := ⟨RX3, "years", "(III)I"⟩
abbrev cX3_image : ByteArray := prog_5_method_55_code
def yX3_image : MethodName := ⟨RX3, "image", "()I"⟩
abbrev cX3_restore : ByteArray := prog_5_method_56_code
def yX3_restore : MethodName := ⟨RX3, "restore", "()I"⟩
abbrev cX3_unlike : ByteArray := prog_5_method_57_code
def yX3_unlike : MethodName := ⟨RX3, "unlike", "()I"⟩
abbrev cX3_owesAll : ByteArray := prog_5_method_58_code
def yX3_owesAll : MethodName := ⟨RX3, "owesAll", "()I"⟩
abbrev cX3_howMany : ByteArray := prog_5_method_59_code
def yX3_howMany : MethodName := ⟨RX3, "howMany", "(I)I"⟩
abbrev cX3_count : ByteArray := prog_5_method_60_code
def yX3_count : MethodName := ⟨RX3, "count", "(I)I"⟩
abbrev cX3_mix : ByteArray := prog_5_method_61_code
def yX3_mix : MethodName := ⟨RX3, "mix", "(J)V"⟩
abbrev cX3_mixHouse : ByteArray := prog_5_method_62_code
def yX3_mixHouse : MethodName := ⟨RX3, "mixHouse", "(I)V"⟩
abbrev cX3_digest : ByteArray := prog_5_method_63_code
def yX3_digest : MethodName := ⟨RX3, "digest", "()J"⟩
def RJ6 : String := "java/lang/Integer"
def TJ6 : u_T := fun k => match k with
  | _ => ("", "", "", false)
def tyJ6 : Nat → FieldType := fun k => match k with
  | _ => .int
abbrev wsJ60 : List Cond := u_ws RJ6 TJ6 0
theorem nmJ6 : ∀ a, a < 0 → ∀ b, b < 0 → a ≠ b → (TJ6 a).2.1 ≠ (TJ6 b).2.1 := by decide +kernel
theorem tyJ6_ok : ∀ k, k < 0 → parseFieldDescriptor (TJ6 k).2.2.1 = some (tyJ6 k) := by decide +kernel
abbrev cJ6_bitCount_0f7a4 : ByteArray := prog_6_method_49_code
def yJ6_bitCount_0f7a4 : MethodName := ⟨RJ6, "bitCount", "(I)I"⟩
def RJ9 : String := "java/lang/Math"
def TJ9 : u_T := fun k => match k with
  | _ => ("", "", "", false)
def tyJ9 : Nat → FieldType := fun k => match k with
  | _ => .int
abbrev wsJ90 : List Cond := u_ws RJ9 TJ9 0
theorem nmJ9 : ∀ a, a < 0 → ∀ b, b < 0 → a ≠ b → (TJ9 a).2.1 ≠ (TJ9 b).2.1 := by decide +kernel
theorem tyJ9_ok : ∀ k, k < 0 → parseFieldDescriptor (TJ9 k).2.2.1 = some (tyJ9 k) := by decide +kernel
abbrev cJ9_abs_0f7a4 : ByteArray := prog_7_method_59_code
def yJ9_abs_0f7a4 : MethodName := ⟨RJ9, "abs", "(I)I"⟩
abbrev cJ9_max_7cf53 : ByteArray := prog_7_method_65_code
def yJ9_max_7cf53 : MethodName := ⟨RJ9, "max", "(II)I"⟩
def RJ0 : String := "java/lang/String"
def TJ0 : u_T := fun k => match k with
  | _ => ("", "", "", false)
def tyJ0 : Nat → FieldType := fun k => match k with
  | _ => .int
abbrev wsJ00 : List Cond := u_ws RJ0 TJ0 0
theorem nmJ0 : ∀ a, a < 0 → ∀ b, b < 0 → a ≠ b → (TJ0 a).2.1 ≠ (TJ0 b).2.1 := by decide +kernel
theorem tyJ0_ok : ∀ k, k < 0 → parseFieldDescriptor (TJ0 k).2.2.1 = some (tyJ0 k) := by decide +kernel
abbrev cJ0_length_8abf5 : ByteArray := prog_8_method_54_code
def yJ0_length_8abf5 : MethodName := ⟨RJ0, "length", "()I"⟩
abbrev cJ0_charAt_5068e : ByteArray := prog_8_method_56_code
def yJ0_charAt_5068e : MethodName := ⟨RJ0, "charAt", "(I)C"⟩
abbrev cJ0_coder_7d493 : ByteArray := prog_8_method_152_code
def yJ0_coder_7d493 : MethodName := ⟨RJ0, "coder", "()B"⟩
abbrev cJ0_isLatin1_aae02 : ByteArray := prog_8_method_154_code
def yJ0_isLatin1_aae02 : MethodName := ⟨RJ0, "isLatin1", "()Z"⟩
abbrev cJ0_checkIndex_df160 : ByteArray := prog_8_method_155_code
def yJ0_checkIndex_df160 : MethodName := ⟨RJ0, "checkIndex", "(II)V"⟩
def RJ1 : String := "java/lang/StringLatin1"
def TJ1 : u_T := fun k => match k with
  | _ => ("", "", "", false)
def tyJ1 : Nat → FieldType := fun k => match k with
  | _ => .int
abbrev wsJ10 : List Cond := u_ws RJ1 TJ1 0
theorem nmJ1 : ∀ a, a < 0 → ∀ b, b < 0 → a ≠ b → (TJ1 a).2.1 ≠ (TJ1 b).2.1 := by decide +kernel
theorem tyJ1_ok : ∀ k, k < 0 → parseFieldDescriptor (TJ1 k).2.2.1 = some (tyJ1 k) := by decide +kernel
abbrev cJ1_charAt_3b067 : ByteArray := prog_9_method_2_code
def yJ1_charAt_3b067 : MethodName := ⟨RJ1, "charAt", "([BI)C"⟩
def RJ2 : String := "java/lang/StringUTF16"
def TJ2 : u_T := fun k => match k with
  | _ => ("", "", "", false)
def tyJ2 : Nat → FieldType := fun k => match k with
  | _ => .int
abbrev wsJ20 : List Cond := u_ws RJ2 TJ2 0
theorem nmJ2 : ∀ a, a < 0 → ∀ b, b < 0 → a ≠ b → (TJ2 a).2.1 ≠ (TJ2 b).2.1 := by decide +kernel
theorem tyJ2_ok : ∀ k, k < 0 → parseFieldDescriptor (TJ2 k).2.2.1 = some (tyJ2 k) := by decide +kernel
abbrev cJ2_getChar_3b067 : ByteArray := prog_10_method_5_code
def yJ2_getChar_3b067 : MethodName := ⟨RJ2, "getChar", "([BI)C"⟩
abbrev cJ2_length_9d52b : ByteArray := prog_10_method_6_code
def yJ2_length_9d52b : MethodName := ⟨RJ2, "length", "([B)I"⟩
abbrev cJ2_charAt_3b067 : ByteArray := prog_10_method_83_code
def yJ2_charAt_3b067 : MethodName := ⟨RJ2, "charAt", "([BI)C"⟩
abbrev cJ2_checkIndex_2214a : ByteArray := prog_10_method_91_code
def yJ2_checkIndex_2214a : MethodName := ⟨RJ2, "checkIndex", "(I[B)V"⟩
def RJ3 : String := "jdk/internal/util/Preconditions"
def TJ3 : u_T := fun k => match k with
  | _ => ("", "", "", false)
def tyJ3 : Nat → FieldType := fun k => match k with
  | _ => .int
abbrev wsJ30 : List Cond := u_ws RJ3 TJ3 0
theorem nmJ3 : ∀ a, a < 0 → ∀ b, b < 0 → a ≠ b → (TJ3 a).2.1 ≠ (TJ3 b).2.1 := by decide +kernel
theorem tyJ3_ok : ∀ k, k < 0 → parseFieldDescriptor (TJ3 k).2.2.1 = some (tyJ3 k) := by decide +kernel
abbrev cJ3_checkIndex_8e157 : ByteArray := prog_11_method_11_code
def yJ3_checkIndex_8e157 : MethodName := ⟨RJ3, "checkIndex", "(IILjava/util/function/BiFunction;)I"⟩
def RL : String := "BirthStreetLaw"
abbrev cL_law : ByteArray := code
def yL_law : MethodName := ⟨RL, "law", "([I)Z"⟩
theorem inJ6 : ∀ w ∈ wsJ60, w ∈ lw_tbl := by decide +kernel
theorem inJ9 : ∀ w ∈ wsJ90, w ∈ lw_tbl := by decide +kernel
theorem inJ0 : ∀ w ∈ wsJ00, w ∈ lw_tbl := by decide +kernel
theorem inJ1 : ∀ w ∈ wsJ10, w ∈ lw_tbl := by decide +kernel
theorem inJ2 : ∀ w ∈ wsJ20, w ∈ lw_tbl := by decide +kernel
theorem inJ3 : ∀ w ∈ wsJ30, w ∈ lw_tbl := by decide +kernel
abbrev vwCl : List vw_C := [(RX0, TX0, 11), (RX1, TX1, 1), (RX2, TX2, 11), (RX3, TX3, 32)]
end
section
/-- every word of the tables that any state keeps, and the selects of the private methods -/
def gG : List Cond := lw_tbl.filter goodWord
theorem gG_in : ∀ w ∈ gG, w ∈ lw_tbl := fun w h => (List.mem_filter.mp h).1
theorem gG_ok : ∀ w ∈ gG, goodWord w = true := fun w h => (List.mem_filter.mp h).2
theorem gm_t {w : Cond} (h : w ∈ tables_1) (hg : goodWord w = true) : w ∈ gG := List.mem_filter.mpr ⟨List.mem_append_right _ h, hg⟩
theorem gm_s {w : Cond} (h : w ∈ k2_sels lw_privs) (hg : goodWord w = true) : w ∈ gG := List.mem_filter.mpr ⟨List.mem_append_left _ h, hg⟩
theorem gm_1 : (.initialized RL : Cond) ∈ gG := gm_t (List.mem_append_left _ (List.mem_of_getElem? (i := 0) (rfl : tables_1_1[0]? = some _))) rfl
theorem gm_2 : (.initialized RX2 : Cond) ∈ gG := gm_t (List.mem_append_left _ (List.mem_of_getElem? (i := 1) (rfl : tables_1_1[1]? = some _))) rfl
theorem gm_3 : (.initialized RX1 : Cond) ∈ gG := gm_t (List.mem_append_left _ (List.mem_of_getElem? (i := 2) (rfl : tables_1_1[2]? = some _))) rfl
theorem gm_4 : (.initialized RX0 : Cond) ∈ gG := gm_t (List.mem_append_left _ (List.mem_of_getElem? (i := 3) (rfl : tables_1_1[3]? = some _))) rfl
theorem gm_5 : (.initialized RX3 : Cond) ∈ gG := gm_t (List.mem_append_left _ (List.mem_of_getElem? (i := 4) (rfl : tables_1_1[4]? = some _))) rfl
theorem gm_6 : (.initialized RJ0 : Cond) ∈ gG := gm_t (List.mem_append_left _ (List.mem_of_getElem? (i := 5) (rfl : tables_1_1[5]? = some _))) rfl
theorem gm_7 : (.initialized RJ1 : Cond) ∈ gG := gm_t (List.mem_append_left _ (List.mem_of_getElem? (i := 6) (rfl : tables_1_1[6]? = some _))) rfl
theorem gm_8 : (.initialized RJ3 : Cond) ∈ gG := gm_t (List.mem_append_left _ (List.mem_of_getElem? (i := 7) (rfl : tables_1_1[7]? = some _))) rfl
theorem gm_9 : (.initialized RJ2 : Cond) ∈ gG := gm_t (List.mem_append_left _ (List.mem_of_getElem? (i := 8) (rfl : tables_1_1[8]? = some _))) rfl
theorem gm_10 : (.initialized RJ9 : Cond) ∈ gG := gm_t (List.mem_append_left _ (List.mem_of_getElem? (i := 9) (rfl : tables_1_1[9]? = some _))) rfl
theorem gm_11 : (.initialized RJ6 : Cond) ∈ gG := gm_t (List.mem_append_left _ (List.mem_of_getElem? (i := 10) (rfl : tables_1_1[10]? = some _))) rfl
theorem gm_12 : (.classLink RL 7 RX2 : Cond) ∈ gG := gm_t (List.mem_append_left _ (List.mem_of_getElem? (i := 11) (rfl : tables_1_1[11]? = some _))) rfl
theorem gm_13 : (.instantiable RX2 11 : Cond) ∈ gG := gm_t (List.mem_append_left _ (List.mem_of_getElem? (i := 12) (rfl : tables_1_1[12]? = some _))) rfl
theorem gm_14 : (.methodLink RL 9 yX2_init : Cond) ∈ gG := gm_t (List.mem_append_left _ (List.mem_of_getElem? (i := 13) (rfl : tables_1_1[13]? = some _))) rfl
theorem gm_15 : (.instanceMethod yX2_init : Cond) ∈ gG := gm_t (List.mem_append_left _ (List.mem_of_getElem? (i := 14) (rfl : tables_1_1[14]? = some _))) rfl
theorem gm_16 : (.code yX2_init cX2_init 1 none : Cond) ∈ gG := gm_t (List.mem_append_left _ (List.mem_of_getElem? (i := 15) (rfl : tables_1_1[15]? = some _))) rfl
theorem gm_17 : (.methodLink RX2 3 objectInit : Cond) ∈ gG := gm_t (List.mem_append_left _ (List.mem_of_getElem? (i := 16) (rfl : tables_1_1[16]? = some _))) rfl
theorem gm_18 : (.instanceMethod objectInit : Cond) ∈ gG := gm_t (List.mem_append_left _ (List.mem_of_getElem? (i := 17) (rfl : tables_1_1[17]? = some _))) rfl
theorem gm_19 : (.code objectInit ⟨#[0xb1]⟩ 1 none : Cond) ∈ gG := gm_t (List.mem_append_left _ (List.mem_of_getElem? (i := 18) (rfl : tables_1_1[18]? = some _))) rfl
theorem gm_20 : (.classLink RX2 9 RX1 : Cond) ∈ gG := gm_t (List.mem_append_left _ (List.mem_of_getElem? (i := 19) (rfl : tables_1_1[19]? = some _))) rfl
theorem gm_21 : (.instantiable RX1 1 : Cond) ∈ gG := gm_t (List.mem_append_left _ (List.mem_of_getElem? (i := 20) (rfl : tables_1_1[20]? = some _))) rfl
theorem gm_22 : (.methodLink RX2 11 yX1_init : Cond) ∈ gG := gm_t (List.mem_append_left _ (List.mem_of_getElem? (i := 21) (rfl : tables_1_1[21]? = some _))) rfl
theorem gm_23 : (.instanceMethod yX1_init : Cond) ∈ gG := gm_t (List.mem_append_left _ (List.mem_of_getElem? (i := 22) (rfl : tables_1_1[22]? = some _))) rfl
theorem gm_24 : (.code yX1_init cX1_init 2 none : Cond) ∈ gG := gm_t (List.mem_append_left _ (List.mem_of_getElem? (i := 23) (rfl : tables_1_1[23]? = some _))) rfl
theorem gm_25 : (.methodLink RX1 1 objectInit : Cond) ∈ gG := gm_t (List.mem_append_left _ (List.mem_of_getElem? (i := 24) (rfl : tables_1_1[24]? = some _))) rfl
theorem gm_26 : (.fieldLink RX1 7 "BirthStreet$Row" "cells" "[I" : Cond) ∈ gG := gm_t (List.mem_append_left _ (List.mem_of_getElem? (i := 25) (rfl : tables_1_1[25]? = some _))) rfl
theorem gm_27 : (.laysFinal RX1 "BirthStreet$Row" "cells" "[I" : Cond) ∈ gG := gm_t (List.mem_append_left _ (List.mem_of_getElem? (i := 26) (rfl : tables_1_1[26]? = some _))) rfl
theorem gm_28 : (.arrayClass .int : Cond) ∈ gG := gm_t (List.mem_append_left _ (List.mem_of_getElem? (i := 29) (rfl : tables_1_1[29]? = some _))) rfl
theorem gm_29 : (.classLink RX2 31 RX0 : Cond) ∈ gG := gm_t (List.mem_append_left _ (List.mem_of_getElem? (i := 30) (rfl : tables_1_1[30]? = some _))) rfl
theorem gm_30 : (.instantiable RX0 11 : Cond) ∈ gG := gm_t (List.mem_append_left _ (List.mem_of_getElem? (i := 31) (rfl : tables_1_1[31]? = some _))) rfl
theorem gn_31 : (.methodLinkNest RX2 33 yX0_init RX2 : Cond) ∈ lw_tbl := List.mem_append_right _ (List.mem_append_left _ (List.mem_of_getElem? (i := 32) (rfl : tables_1_1[32]? = some _)))
theorem gm_32 : (.instanceMethod yX0_init : Cond) ∈ gG := gm_t (List.mem_append_left _ (List.mem_of_getElem? (i := 33) (rfl : tables_1_1[33]? = some _))) rfl
theorem gm_33 : (.code yX0_init cX0_init 1 none : Cond) ∈ gG := gm_t (List.mem_append_left _ (List.mem_of_getElem? (i := 34) (rfl : tables_1_1[34]? = some _))) rfl
theorem gm_34 : (.methodLink RX0 3 objectInit : Cond) ∈ gG := gm_t (List.mem_append_left _ (List.mem_of_getElem? (i := 35) (rfl : tables_1_1[35]? = some _))) rfl
theorem gm_35 : (.classLink RX0 24 RX1 : Cond) ∈ gG := gm_t (List.mem_append_left _ (List.mem_of_getElem? (i := 36) (rfl : tables_1_1[36]? = some _))) rfl
theorem gm_36 : (.methodLink RX0 26 yX1_init : Cond) ∈ gG := gm_t (List.mem_append_left _ (List.mem_of_getElem? (i := 37) (rfl : tables_1_1[37]? = some _))) rfl
theorem gm_37 : (.fieldLink RX0 9 "BirthStreet$Moment" "today" "I" : Cond) ∈ gG := gm_t (List.mem_append_left _ (List.mem_of_getElem? (i := 38) (rfl : tables_1_1[38]? = some _))) rfl
theorem gn_38 : (.fieldLinkNest RX2 112 "BirthStreet$Moment" "today" "I" RX2 : Cond) ∈ lw_tbl := List.mem_append_right _ (List.mem_append_left _ (List.mem_of_getElem? (i := 39) (rfl : tables_1_1[39]? = some _)))
theorem gm_39 : (.fieldLink RX0 15 "BirthStreet$Moment" "births" "I" : Cond) ∈ gG := gm_t (List.mem_append_left _ (List.mem_of_getElem? (i := 40) (rfl : tables_1_1[40]? = some _))) rfl
theorem gn_40 : (.fieldLinkNest RX2 103 "BirthStreet$Moment" "births" "I" RX2 : Cond) ∈ lw_tbl := List.mem_append_right _ (List.mem_append_left _ (List.mem_of_getElem? (i := 41) (rfl : tables_1_1[41]? = some _)))
theorem gm_41 : (.fieldLink RX0 18 "BirthStreet$Moment" "debts" "I" : Cond) ∈ gG := gm_t (List.mem_append_left _ (List.mem_of_getElem? (i := 42) (rfl : tables_1_1[42]? = some _))) rfl
theorem gn_42 : (.fieldLinkNest RX2 139 "BirthStreet$Moment" "debts" "I" RX2 : Cond) ∈ lw_tbl := List.mem_append_right _ (List.mem_append_left _ (List.mem_of_getElem? (i := 43) (rfl : tables_1_1[43]? = some _)))
theorem gm_43 : (.fieldLink RX0 21 "BirthStreet$Moment" "heard" "I" : Cond) ∈ gG := gm_t (List.mem_append_left _ (List.mem_of_getElem? (i := 44) (rfl : tables_1_1[44]? = some _))) rfl
theorem gn_44 : (.fieldLinkNest RX2 162 "BirthStreet$Moment" "heard" "I" RX2 : Cond) ∈ lw_tbl := List.mem_append_right _ (List.mem_append_left _ (List.mem_of_getElem? (i := 45) (rfl : tables_1_1[45]? = some _)))
theorem gm_45 : (.fieldLink RX0 29 "BirthStreet$Moment" "ages" "LBirthStreet$Row;" : Cond) ∈ gG := gm_t (List.mem_append_left _ (List.mem_of_getElem? (i := 46) (rfl : tables_1_1[46]? = some _))) rfl
theorem gn_46 : (.fieldLinkNest RX2 76 "BirthStreet$Moment" "ages" "LBirthStreet$Row;" RX2 : Cond) ∈ lw_tbl := List.mem_append_right _ (List.mem_append_left _ (List.mem_of_getElem? (i := 47) (rfl : tables_1_1[47]? = some _)))
theorem gm_47 : (.fieldLink RX0 33 "BirthStreet$Moment" "pastAges" "LBirthStreet$Row;" : Cond) ∈ gG := gm_t (List.mem_append_left _ (List.mem_of_getElem? (i := 48) (rfl : tables_1_1[48]? = some _))) rfl
theorem gn_48 : (.fieldLinkNest RX2 115 "BirthStreet$Moment" "pastAges" "LBirthStreet$Row;" RX2 : Cond) ∈ lw_tbl := List.mem_append_right _ (List.mem_append_left _ (List.mem_of_getElem? (i := 49) (rfl : tables_1_1[49]? = some _)))
theorem gm_49 : (.fieldLink RX0 36 "BirthStreet$Moment" "birthsIn" "LBirthStreet$Row;" : Cond) ∈ gG := gm_t (List.mem_append_left _ (List.mem_of_getElem? (i := 50) (rfl : tables_1_1[50]? = some _))) rfl
theorem gn_50 : (.fieldLinkNest RX2 86 "BirthStreet$Moment" "birthsIn" "LBirthStreet$Row;" RX2 : Cond) ∈ lw_tbl := List.mem_append_right _ (List.mem_append_left _ (List.mem_of_getElem? (i := 51) (rfl : tables_1_1[51]? = some _)))
theorem gm_51 : (.fieldLink RX0 39 "BirthStreet$Moment" "debtAmounts" "LBirthStreet$Row;" : Cond) ∈ gG := gm_t (List.mem_append_left _ (List.mem_of_getElem? (i := 52) (rfl : tables_1_1[52]? = some _))) rfl
theorem gn_52 : (.fieldLinkNest RX2 142 "BirthStreet$Moment" "debtAmounts" "LBirthStreet$Row;" RX2 : Cond) ∈ lw_tbl := List.mem_append_right _ (List.mem_append_left _ (List.mem_of_getElem? (i := 53) (rfl : tables_1_1[53]? = some _)))
theorem gm_53 : (.fieldLink RX0 42 "BirthStreet$Moment" "debtNumbers" "LBirthStreet$Row;" : Cond) ∈ gG := gm_t (List.mem_append_left _ (List.mem_of_getElem? (i := 54) (rfl : tables_1_1[54]? = some _))) rfl
theorem gn_54 : (.fieldLinkNest RX2 145 "BirthStreet$Moment" "debtNumbers" "LBirthStreet$Row;" RX2 : Cond) ∈ lw_tbl := List.mem_append_right _ (List.mem_append_left _ (List.mem_of_getElem? (i := 55) (rfl : tables_1_1[55]? = some _)))
theorem gm_55 : (.fieldLink RX0 45 "BirthStreet$Moment" "heardHouses" "LBirthStreet$Row;" : Cond) ∈ gG := gm_t (List.mem_append_left _ (List.mem_of_getElem? (i := 56) (rfl : tables_1_1[56]? = some _))) rfl
theorem gn_56 : (.fieldLinkNest RX2 165 "BirthStreet$Moment" "heardHouses" "LBirthStreet$Row;" RX2 : Cond) ∈ lw_tbl := List.mem_append_right _ (List.mem_append_left _ (List.mem_of_getElem? (i := 57) (rfl : tables_1_1[57]? = some _)))
theorem gm_57 : (.fieldLink RX0 48 "BirthStreet$Moment" "heardNumbers" "LBirthStreet$Row;" : Cond) ∈ gG := gm_t (List.mem_append_left _ (List.mem_of_getElem? (i := 58) (rfl : tables_1_1[58]? = some _))) rfl
theorem gn_58 : (.fieldLinkNest RX2 168 "BirthStreet$Moment" "heardNumbers" "LBirthStreet$Row;" RX2 : Cond) ∈ lw_tbl := List.mem_append_right _ (List.mem_append_left _ (List.mem_of_getElem? (i := 59) (rfl : tables_1_1[59]? = some _)))
theorem gm_59 : (.lays RX0 "BirthStreet$Moment" "today" "I" : Cond) ∈ gG := gm_t (List.mem_append_left _ (List.mem_of_getElem? (i := 60) (rfl : tables_1_1[60]? = some _))) rfl
theorem gm_60 : (.lays RX0 "BirthStreet$Moment" "births" "I" : Cond) ∈ gG := gm_t (List.mem_append_left _ (List.mem_of_getElem? (i := 62) (rfl : tables_1_1[62]? = some _))) rfl
theorem gm_61 : (.lays RX0 "BirthStreet$Moment" "debts" "I" : Cond) ∈ gG := gm_t (List.mem_append_left _ (List.mem_of_getElem? (i := 64) (rfl : tables_1_1[64]? = some _))) rfl
theorem gm_62 : (.lays RX0 "BirthStreet$Moment" "heard" "I" : Cond) ∈ gG := gm_t (List.mem_append_left _ (List.mem_of_getElem? (i := 66) (rfl : tables_1_1[66]? = some _))) rfl
theorem gm_63 : (.laysFinal RX0 "BirthStreet$Moment" "ages" "LBirthStreet$Row;" : Cond) ∈ gG := gm_t (List.mem_append_left _ (List.mem_of_getElem? (i := 68) (rfl : tables_1_1[68]? = some _))) rfl
theorem gm_64 : (.laysFinal RX0 "BirthStreet$Moment" "pastAges" "LBirthStreet$Row;" : Cond) ∈ gG := gm_t (List.mem_append_left _ (List.mem_of_getElem? (i := 70) (rfl : tables_1_1[70]? = some _))) rfl
theorem gm_65 : (.laysFinal RX0 "BirthStreet$Moment" "birthsIn" "LBirthStreet$Row;" : Cond) ∈ gG := gm_t (List.mem_append_left _ (List.mem_of_getElem? (i := 72) (rfl : tables_1_1[72]? = some _))) rfl
theorem gm_66 : (.laysFinal RX0 "BirthStreet$Moment" "debtAmounts" "LBirthStreet$Row;" : Cond) ∈ gG := gm_t (List.mem_append_left _ (List.mem_of_getElem? (i := 74) (rfl : tables_1_1[74]? = some _))) rfl
theorem gm_67 : (.laysFinal RX0 "BirthStreet$Moment" "debtNumbers" "LBirthStreet$Row;" : Cond) ∈ gG := gm_t (List.mem_append_left _ (List.mem_of_getElem? (i := 76) (rfl : tables_1_1[76]? = some _))) rfl
theorem gm_68 : (.laysFinal RX0 "BirthStreet$Moment" "heardHouses" "LBirthStreet$Row;" : Cond) ∈ gG := gm_t (List.mem_append_left _ (List.mem_of_getElem? (i := 78) (rfl : tables_1_1[78]? = some _))) rfl
theorem gm_69 : (.laysFinal RX0 "BirthStreet$Moment" "heardNumbers" "LBirthStreet$Row;" : Cond) ∈ gG := gm_t (List.mem_append_left _ (List.mem_of_getElem? (i := 80) (rfl : tables_1_1[80]? = some _))) rfl
theorem gm_70 : (.fieldLink RX2 14 "BirthStreet" "page" "LBirthStreet$Row;" : Cond) ∈ gG := gm_t (List.mem_append_left _ (List.mem_of_getElem? (i := 83) (rfl : tables_1_1[83]? = some _))) rfl
theorem gm_71 : (.fieldLink RX2 18 "BirthStreet" "letters" "I" : Cond) ∈ gG := gm_t (List.mem_append_left _ (List.mem_of_getElem? (i := 84) (rfl : tables_1_1[84]? = some _))) rfl
theorem gm_72 : (.fieldLink RX2 22 "BirthStreet" "houses" "I" : Cond) ∈ gG := gm_t (List.mem_append_left _ (List.mem_of_getElem? (i := 85) (rfl : tables_1_1[85]? = some _))) rfl
theorem gm_73 : (.fieldLink RX2 25 "BirthStreet" "streetsRead" "I" : Cond) ∈ gG := gm_t (List.mem_append_left _ (List.mem_of_getElem? (i := 86) (rfl : tables_1_1[86]? = some _))) rfl
theorem gm_74 : (.fieldLink RX2 28 "BirthStreet" "kinds" "LBirthStreet$Row;" : Cond) ∈ gG := gm_t (List.mem_append_left _ (List.mem_of_getElem? (i := 87) (rfl : tables_1_1[87]? = some _))) rfl
theorem gm_75 : (.fieldLink RX2 34 "BirthStreet" "now" "LBirthStreet$Moment;" : Cond) ∈ gG := gm_t (List.mem_append_left _ (List.mem_of_getElem? (i := 88) (rfl : tables_1_1[88]? = some _))) rfl
theorem gm_76 : (.fieldLink RX2 38 "BirthStreet" "kept" "LBirthStreet$Moment;" : Cond) ∈ gG := gm_t (List.mem_append_left _ (List.mem_of_getElem? (i := 89) (rfl : tables_1_1[89]? = some _))) rfl
theorem gm_77 : (.fieldLink RX2 41 "BirthStreet" "isKept" "Z" : Cond) ∈ gG := gm_t (List.mem_append_left _ (List.mem_of_getElem? (i := 90) (rfl : tables_1_1[90]? = some _))) rfl
theorem gm_78 : (.fieldLink RX2 45 "BirthStreet" "wouldBe" "LBirthStreet$Row;" : Cond) ∈ gG := gm_t (List.mem_append_left _ (List.mem_of_getElem? (i := 91) (rfl : tables_1_1[91]? = some _))) rfl
theorem gm_79 : (.fieldLink RX2 48 "BirthStreet" "possible" "LBirthStreet$Row;" : Cond) ∈ gG := gm_t (List.mem_append_left _ (List.mem_of_getElem? (i := 92) (rfl : tables_1_1[92]? = some _))) rfl
theorem gm_80 : (.fieldLink RX2 51 "BirthStreet" "tally" "LBirthStreet$Row;" : Cond) ∈ gG := gm_t (List.mem_append_left _ (List.mem_of_getElem? (i := 93) (rfl : tables_1_1[93]? = some _))) rfl
theorem gm_81 : (.laysFinal RX2 "BirthStreet" "page" "LBirthStreet$Row;" : Cond) ∈ gG := gm_t (List.mem_append_left _ (List.mem_of_getElem? (i := 94) (rfl : tables_1_1[94]? = some _))) rfl
theorem gm_82 : (.lays RX2 "BirthStreet" "letters" "I" : Cond) ∈ gG := gm_t (List.mem_append_left _ (List.mem_of_getElem? (i := 96) (rfl : tables_1_1[96]? = some _))) rfl
theorem gm_83 : (.lays RX2 "BirthStreet" "houses" "I" : Cond) ∈ gG := gm_t (List.mem_append_left _ (List.mem_of_getElem? (i := 98) (rfl : tables_1_1[98]? = some _))) rfl
theorem gm_84 : (.lays RX2 "BirthStreet" "streetsRead" "I" : Cond) ∈ gG := gm_t (List.mem_append_left _ (List.mem_of_getElem? (i := 100) (rfl : tables_1_1[100]? = some _))) rfl
theorem gm_85 : (.laysFinal RX2 "BirthStreet" "kinds" "LBirthStreet$Row;" : Cond) ∈ gG := gm_t (List.mem_append_left _ (List.mem_of_getElem? (i := 102) (rfl : tables_1_1[102]? = some _))) rfl
theorem gm_86 : (.laysFinal RX2 "BirthStreet" "now" "LBirthStreet$Moment;" : Cond) ∈ gG := gm_t (List.mem_append_left _ (List.mem_of_getElem? (i := 104) (rfl : tables_1_1[104]? = some _))) rfl
theorem gm_87 : (.laysFinal RX2 "BirthStreet" "kept" "LBirthStreet$Moment;" : Cond) ∈ gG := gm_t (List.mem_append_left _ (List.mem_of_getElem? (i := 106) (rfl : tables_1_1[106]? = some _))) rfl
theorem gm_88 : (.lays RX2 "BirthStreet" "isKept" "Z" : Cond) ∈ gG := gm_t (List.mem_append_left _ (List.mem_of_getElem? (i := 108) (rfl : tables_1_1[108]? = some _))) rfl
theorem gm_89 : (.laysFinal RX2 "BirthStreet" "wouldBe" "LBirthStreet$Row;" : Cond) ∈ gG := gm_t (List.mem_append_left _ (List.mem_of_getElem? (i := 110) (rfl : tables_1_1[110]? = some _))) rfl
theorem gm_90 : (.laysFinal RX2 "BirthStreet" "possible" "LBirthStreet$Row;" : Cond) ∈ gG := gm_t (List.mem_append_left _ (List.mem_of_getElem? (i := 112) (rfl : tables_1_1[112]? = some _))) rfl
theorem gm_91 : (.laysFinal RX2 "BirthStreet" "tally" "LBirthStreet$Row;" : Cond) ∈ gG := gm_t (List.mem_append_left _ (List.mem_of_getElem? (i := 114) (rfl : tables_1_1[114]? = some _))) rfl
theorem gm_92 : (.methodLink RL 13 yX2_letter : Cond) ∈ gG := gm_t (List.mem_append_left _ (List.mem_of_getElem? (i := 117) (rfl : tables_1_1[117]? = some _))) rfl
theorem gm_93 : (.instanceMethod yX2_letter : Cond) ∈ gG := gm_t (List.mem_append_left _ (List.mem_of_getElem? (i := 118) (rfl : tables_1_1[118]? = some _))) rfl
theorem gm_94 : (.selects RX2 yX2_letter yX2_letter : Cond) ∈ gG := gm_t (List.mem_append_left _ (List.mem_of_getElem? (i := 119) (rfl : tables_1_1[119]? = some _))) rfl
theorem gm_95 : (.code yX2_letter cX2_letter 2 (some .int) : Cond) ∈ gG := gm_t (List.mem_append_left _ (List.mem_of_getElem? (i := 120) (rfl : tables_1_1[120]? = some _))) rfl
theorem gm_96 : (.methodLink RX2 54 yX1_put : Cond) ∈ gG := gm_t (List.mem_append_left _ (List.mem_of_getElem? (i := 121) (rfl : tables_1_1[121]? = some _))) rfl
theorem gm_97 : (.instanceMethod yX1_put : Cond) ∈ gG := gm_t (List.mem_append_left _ (List.mem_of_getElem? (i := 122) (rfl : tables_1_1[122]? = some _))) rfl
theorem gm_98 : (.selects RX1 yX1_put yX1_put : Cond) ∈ gG := gm_t (List.mem_append_left _ (List.mem_of_getElem? (i := 123) (rfl : tables_1_1[123]? = some _))) rfl
theorem gm_99 : (.code yX1_put cX1_put 3 none : Cond) ∈ gG := gm_t (List.mem_append_left _ (List.mem_of_getElem? (i := 124) (rfl : tables_1_1[124]? = some _))) rfl
theorem gm_100 : (.methodLink RL 18 yX2_blank : Cond) ∈ gG := gm_t (List.mem_append_left _ (List.mem_of_getElem? (i := 125) (rfl : tables_1_1[125]? = some _))) rfl
theorem gm_101 : (.instanceMethod yX2_blank : Cond) ∈ gG := gm_t (List.mem_append_left _ (List.mem_of_getElem? (i := 126) (rfl : tables_1_1[126]? = some _))) rfl
theorem gm_102 : (.selects RX2 yX2_blank yX2_blank : Cond) ∈ gG := gm_t (List.mem_append_left _ (List.mem_of_getElem? (i := 127) (rfl : tables_1_1[127]? = some _))) rfl
theorem gm_103 : (.code yX2_blank cX2_blank 2 (some .int) : Cond) ∈ gG := gm_t (List.mem_append_left _ (List.mem_of_getElem? (i := 128) (rfl : tables_1_1[128]? = some _))) rfl
theorem gm_104 : (.methodLink RL 23 yX2_fault : Cond) ∈ gG := gm_t (List.mem_append_left _ (List.mem_of_getElem? (i := 129) (rfl : tables_1_1[129]? = some _))) rfl
theorem gm_105 : (.instanceMethod yX2_fault : Cond) ∈ gG := gm_t (List.mem_append_left _ (List.mem_of_getElem? (i := 130) (rfl : tables_1_1[130]? = some _))) rfl
theorem gm_106 : (.selects RX2 yX2_fault yX2_fault : Cond) ∈ gG := gm_t (List.mem_append_left _ (List.mem_of_getElem? (i := 131) (rfl : tables_1_1[131]? = some _))) rfl
theorem gm_107 : (.code yX2_fault cX2_fault 2 (some .int) : Cond) ∈ gG := gm_t (List.mem_append_left _ (List.mem_of_getElem? (i := 132) (rfl : tables_1_1[132]? = some _))) rfl
theorem gm_108 : (.methodLink RX2 58 yX1_at : Cond) ∈ gG := gm_t (List.mem_append_left _ (List.mem_of_getElem? (i := 133) (rfl : tables_1_1[133]? = some _))) rfl
theorem gm_109 : (.instanceMethod yX1_at : Cond) ∈ gG := gm_t (List.mem_append_left _ (List.mem_of_getElem? (i := 134) (rfl : tables_1_1[134]? = some _))) rfl
theorem gm_110 : (.selects RX1 yX1_at yX1_at : Cond) ∈ gG := gm_t (List.mem_append_left _ (List.mem_of_getElem? (i := 135) (rfl : tables_1_1[135]? = some _))) rfl
theorem gm_111 : (.code yX1_at cX1_at 2 (some .int) : Cond) ∈ gG := gm_t (List.mem_append_left _ (List.mem_of_getElem? (i := 136) (rfl : tables_1_1[136]? = some _))) rfl
theorem gm_112 : (.methodLink RX2 62 yX2_canStandAt : Cond) ∈ gG := gm_t (List.mem_append_left _ (List.mem_of_getElem? (i := 137) (rfl : tables_1_1[137]? = some _))) rfl
theorem gm_113 : (.static yX2_canStandAt : Cond) ∈ gG := gm_t (List.mem_append_left _ (List.mem_of_getElem? (i := 138) (rfl : tables_1_1[138]? = some _))) rfl
theorem gm_114 : (.code yX2_canStandAt cX2_canStandAt 2 (some .boolean) : Cond) ∈ gG := gm_t (List.mem_append_left _ (List.mem_of_getElem? (i := 139) (rfl : tables_1_1[139]? = some _))) rfl
theorem gm_115 : (.methodLink RX2 73 yX2_kindOfLetter : Cond) ∈ gG := gm_t (List.mem_append_left _ (List.mem_of_getElem? (i := 140) (rfl : tables_1_1[140]? = some _))) rfl
theorem gm_116 : (.static yX2_kindOfLetter : Cond) ∈ gG := gm_t (List.mem_append_left _ (List.mem_of_getElem? (i := 141) (rfl : tables_1_1[141]? = some _))) rfl
theorem gm_117 : (.code yX2_kindOfLetter cX2_kindOfLetter 2 (some .int) : Cond) ∈ gG := gm_t (List.mem_append_left _ (List.mem_of_getElem? (i := 142) (rfl : tables_1_1[142]? = some _))) rfl
theorem gn_118 : (.stringRef RX2 233 "htmcb" : Cond) ∈ lw_tbl := List.mem_append_right _ (List.mem_append_left _ (List.mem_of_getElem? (i := 143) (rfl : tables_1_1[143]? = some _)))
theorem gm_119 : (.methodLink RX2 235 yJ0_length_8abf5 : Cond) ∈ gG := gm_t (List.mem_append_left _ (List.mem_of_getElem? (i := 144) (rfl : tables_1_1[144]? = some _))) rfl
theorem gm_120 : (.instanceMethod yJ0_length_8abf5 : Cond) ∈ gG := gm_t (List.mem_append_left _ (List.mem_of_getElem? (i := 145) (rfl : tables_1_1[145]? = some _))) rfl
theorem gm_121 : (.selects RJ0 yJ0_length_8abf5 yJ0_length_8abf5 : Cond) ∈ gG := gm_t (List.mem_append_left _ (List.mem_of_getElem? (i := 146) (rfl : tables_1_1[146]? = some _))) rfl
theorem gm_122 : (.code yJ0_length_8abf5 cJ0_length_8abf5 1 (some .int) : Cond) ∈ gG := gm_t (List.mem_append_left _ (List.mem_of_getElem? (i := 147) (rfl : tables_1_1[147]? = some _))) rfl
theorem gm_123 : (.methodLink RJ0 335 yJ0_coder_7d493 : Cond) ∈ gG := gm_t (List.mem_append_left _ (List.mem_of_getElem? (i := 148) (rfl : tables_1_1[148]? = some _))) rfl
theorem gm_124 : (.instanceMethod yJ0_coder_7d493 : Cond) ∈ gG := gm_t (List.mem_append_left _ (List.mem_of_getElem? (i := 149) (rfl : tables_1_1[149]? = some _))) rfl
theorem gm_125 : (.selects RJ0 yJ0_coder_7d493 yJ0_coder_7d493 : Cond) ∈ gG := gm_t (List.mem_append_left _ (List.mem_of_getElem? (i := 150) (rfl : tables_1_1[150]? = some _))) rfl
theorem gm_126 : (.code yJ0_coder_7d493 cJ0_coder_7d493 1 (some .byte) : Cond) ∈ gG := gm_t (List.mem_append_left _ (List.mem_of_getElem? (i := 151) (rfl : tables_1_1[151]? = some _))) rfl
theorem gm_127 : (.fieldLink RJ0 38 "java/lang/String" "COMPACT_STRINGS" "Z" : Cond) ∈ gG := gm_t (List.mem_append_left _ (List.mem_of_getElem? (i := 152) (rfl : tables_1_1[152]? = some _))) rfl
theorem gm_128 : (.methodLink RX2 240 yJ0_charAt_5068e : Cond) ∈ gG := gm_t (List.mem_append_left _ (List.mem_of_getElem? (i := 154) (rfl : tables_1_1[154]? = some _))) rfl
theorem gm_129 : (.instanceMethod yJ0_charAt_5068e : Cond) ∈ gG := gm_t (List.mem_append_left _ (List.mem_of_getElem? (i := 155) (rfl : tables_1_1[155]? = some _))) rfl
theorem gm_130 : (.selects RJ0 yJ0_charAt_5068e yJ0_charAt_5068e : Cond) ∈ gG := gm_t (List.mem_append_left _ (List.mem_of_getElem? (i := 156) (rfl : tables_1_1[156]? = some _))) rfl
theorem gm_131 : (.code yJ0_charAt_5068e cJ0_charAt_5068e 2 (some .char) : Cond) ∈ gG := gm_t (List.mem_append_left _ (List.mem_of_getElem? (i := 157) (rfl : tables_1_1[157]? = some _))) rfl
theorem gm_132 : (.methodLink RJ0 492 yJ0_isLatin1_aae02 : Cond) ∈ gG := gm_t (List.mem_append_left _ (List.mem_of_getElem? (i := 158) (rfl : tables_1_1[158]? = some _))) rfl
theorem gm_133 : (.instanceMethod yJ0_isLatin1_aae02 : Cond) ∈ gG := gm_t (List.mem_append_left _ (List.mem_of_getElem? (i := 159) (rfl : tables_1_1[159]? = some _))) rfl
theorem gm_134 : (.selects RJ0 yJ0_isLatin1_aae02 yJ0_isLatin1_aae02 : Cond) ∈ gG := gm_t (List.mem_append_left _ (List.mem_of_getElem? (i := 160) (rfl : tables_1_1[160]? = some _))) rfl
theorem gm_135 : (.code yJ0_isLatin1_aae02 cJ0_isLatin1_aae02 1 (some .boolean) : Cond) ∈ gG := gm_t (List.mem_append_left _ (List.mem_of_getElem? (i := 161) (rfl : tables_1_1[161]? = some _))) rfl
theorem gm_136 : (.methodLink RJ0 495 yJ1_charAt_3b067 : Cond) ∈ gG := gm_t (List.mem_append_left _ (List.mem_of_getElem? (i := 162) (rfl : tables_1_1[162]? = some _))) rfl
theorem gm_137 : (.static yJ1_charAt_3b067 : Cond) ∈ gG := gm_t (List.mem_append_left _ (List.mem_of_getElem? (i := 163) (rfl : tables_1_1[163]? = some _))) rfl
theorem gm_138 : (.code yJ1_charAt_3b067 cJ1_charAt_3b067 2 (some .char) : Cond) ∈ gG := gm_t (List.mem_append_left _ (List.mem_of_getElem? (i := 164) (rfl : tables_1_1[164]? = some _))) rfl
theorem gm_139 : (.methodLink RJ1 9 yJ0_checkIndex_df160 : Cond) ∈ gG := gm_t (List.mem_append_left _ (List.mem_of_getElem? (i := 165) (rfl : tables_1_1[165]? = some _))) rfl
theorem gm_140 : (.static yJ0_checkIndex_df160 : Cond) ∈ gG := gm_t (List.mem_append_left _ (List.mem_of_getElem? (i := 166) (rfl : tables_1_1[166]? = some _))) rfl
theorem gm_141 : (.code yJ0_checkIndex_df160 cJ0_checkIndex_df160 2 none : Cond) ∈ gG := gm_t (List.mem_append_left _ (List.mem_of_getElem? (i := 167) (rfl : tables_1_1[167]? = some _))) rfl
theorem gm_142 : (.fieldLink RJ0 1053 "jdk/internal/util/Preconditions" "SIOOBE_FORMATTER" "Ljava/util/function/BiFunction;" : Cond) ∈ gG := gm_t (List.mem_append_left _ (List.mem_of_getElem? (i := 168) (rfl : tables_1_1[168]? = some _))) rfl
theorem gm_143 : (.methodLink RJ0 1059 yJ3_checkIndex_8e157 : Cond) ∈ gG := gm_t (List.mem_append_left _ (List.mem_of_getElem? (i := 170) (rfl : tables_1_1[170]? = some _))) rfl
theorem gm_144 : (.static yJ3_checkIndex_8e157 : Cond) ∈ gG := gm_t (List.mem_append_left _ (List.mem_of_getElem? (i := 171) (rfl : tables_1_1[171]? = some _))) rfl
theorem gm_145 : (.code yJ3_checkIndex_8e157 cJ3_checkIndex_8e157 3 (some .int) : Cond) ∈ gG := gm_t (List.mem_append_left _ (List.mem_of_getElem? (i := 172) (rfl : tables_1_1[172]? = some _))) rfl
theorem gm_146 : (.methodLink RJ0 498 yJ2_charAt_3b067 : Cond) ∈ gG := gm_t (List.mem_append_left _ (List.mem_of_getElem? (i := 173) (rfl : tables_1_1[173]? = some _))) rfl
theorem gm_147 : (.static yJ2_charAt_3b067 : Cond) ∈ gG := gm_t (List.mem_append_left _ (List.mem_of_getElem? (i := 174) (rfl : tables_1_1[174]? = some _))) rfl
theorem gm_148 : (.code yJ2_charAt_3b067 cJ2_charAt_3b067 2 (some .char) : Cond) ∈ gG := gm_t (List.mem_append_left _ (List.mem_of_getElem? (i := 175) (rfl : tables_1_1[175]? = some _))) rfl
theorem gm_149 : (.methodLink RJ2 67 yJ2_checkIndex_2214a : Cond) ∈ gG := gm_t (List.mem_append_left _ (List.mem_of_getElem? (i := 176) (rfl : tables_1_1[176]? = some _))) rfl
theorem gm_150 : (.static yJ2_checkIndex_2214a : Cond) ∈ gG := gm_t (List.mem_append_left _ (List.mem_of_getElem? (i := 177) (rfl : tables_1_1[177]? = some _))) rfl
theorem gm_151 : (.code yJ2_checkIndex_2214a cJ2_checkIndex_2214a 2 none : Cond) ∈ gG := gm_t (List.mem_append_left _ (List.mem_of_getElem? (i := 178) (rfl : tables_1_1[178]? = some _))) rfl
theorem gm_152 : (.methodLink RJ2 48 yJ2_length_9d52b : Cond) ∈ gG := gm_t (List.mem_append_left _ (List.mem_of_getElem? (i := 179) (rfl : tables_1_1[179]? = some _))) rfl
theorem gm_153 : (.static yJ2_length_9d52b : Cond) ∈ gG := gm_t (List.mem_append_left _ (List.mem_of_getElem? (i := 180) (rfl : tables_1_1[180]? = some _))) rfl
theorem gm_154 : (.code yJ2_length_9d52b cJ2_length_9d52b 1 (some .int) : Cond) ∈ gG := gm_t (List.mem_append_left _ (List.mem_of_getElem? (i := 181) (rfl : tables_1_1[181]? = some _))) rfl
theorem gm_155 : (.methodLink RJ2 414 yJ0_checkIndex_df160 : Cond) ∈ gG := gm_t (List.mem_append_left _ (List.mem_of_getElem? (i := 182) (rfl : tables_1_1[182]? = some _))) rfl
theorem gm_156 : (.methodLink RJ2 71 yJ2_getChar_3b067 : Cond) ∈ gG := gm_t (List.mem_append_left _ (List.mem_of_getElem? (i := 183) (rfl : tables_1_1[183]? = some _))) rfl
theorem gm_157 : (.static yJ2_getChar_3b067 : Cond) ∈ gG := gm_t (List.mem_append_left _ (List.mem_of_getElem? (i := 184) (rfl : tables_1_1[184]? = some _))) rfl
theorem gm_158 : (.code yJ2_getChar_3b067 cJ2_getChar_3b067 2 (some .char) : Cond) ∈ gG := gm_t (List.mem_append_left _ (List.mem_of_getElem? (i := 185) (rfl : tables_1_1[185]? = some _))) rfl
theorem gm_159 : (.fieldLink RJ2 44 "java/lang/StringUTF16" "$assertionsDisabled" "Z" : Cond) ∈ gG := gm_t (List.mem_append_left _ (List.mem_of_getElem? (i := 186) (rfl : tables_1_1[186]? = some _))) rfl
theorem gm_160 : (.fieldLink RJ2 59 "java/lang/StringUTF16" "HI_BYTE_SHIFT" "I" : Cond) ∈ gG := gm_t (List.mem_append_left _ (List.mem_of_getElem? (i := 188) (rfl : tables_1_1[188]? = some _))) rfl
theorem gm_161 : (.fieldLink RJ2 63 "java/lang/StringUTF16" "LO_BYTE_SHIFT" "I" : Cond) ∈ gG := gm_t (List.mem_append_left _ (List.mem_of_getElem? (i := 190) (rfl : tables_1_1[190]? = some _))) rfl
theorem gm_162 : (.arrayClass .byte : Cond) ∈ gG := gm_t (List.mem_append_left _ (List.mem_of_getElem? (i := 192) (rfl : tables_1_1[192]? = some _))) rfl
theorem gm_163 : (.methodLink RL 27 yX2_street : Cond) ∈ gG := gm_t (List.mem_append_left _ (List.mem_of_getElem? (i := 193) (rfl : tables_1_1[193]? = some _))) rfl
theorem gm_164 : (.instanceMethod yX2_street : Cond) ∈ gG := gm_t (List.mem_append_left _ (List.mem_of_getElem? (i := 194) (rfl : tables_1_1[194]? = some _))) rfl
theorem gm_165 : (.selects RX2 yX2_street yX2_street : Cond) ∈ gG := gm_t (List.mem_append_left _ (List.mem_of_getElem? (i := 195) (rfl : tables_1_1[195]? = some _))) rfl
theorem gm_166 : (.code yX2_street cX2_street 4 (some .int) : Cond) ∈ gG := gm_t (List.mem_append_left _ (List.mem_of_getElem? (i := 196) (rfl : tables_1_1[196]? = some _))) rfl
theorem gm_167 : (.methodLink RX2 66 yX2_housesOnPage : Cond) ∈ gG := gm_t (List.mem_append_left _ (List.mem_of_getElem? (i := 197) (rfl : tables_1_1[197]? = some _))) rfl
theorem gm_168 : (.instanceMethod yX2_housesOnPage : Cond) ∈ gG := gm_t (List.mem_append_left _ (List.mem_of_getElem? (i := 199) (rfl : tables_1_1[199]? = some _))) rfl
theorem gm_169 : (.code yX2_housesOnPage cX2_housesOnPage 2 (some .int) : Cond) ∈ gG := gm_t (List.mem_append_left _ (List.mem_of_getElem? (i := 200) (rfl : tables_1_1[200]? = some _))) rfl
theorem gm_170 : (.methodLink RX2 244 yX2_fault : Cond) ∈ gG := gm_t (List.mem_append_left _ (List.mem_of_getElem? (i := 201) (rfl : tables_1_1[201]? = some _))) rfl
theorem gm_171 : (.methodLink RX2 70 yX0_startAnew : Cond) ∈ gG := gm_t (List.mem_append_left _ (List.mem_of_getElem? (i := 202) (rfl : tables_1_1[202]? = some _))) rfl
theorem gm_172 : (.instanceMethod yX0_startAnew : Cond) ∈ gG := gm_t (List.mem_append_left _ (List.mem_of_getElem? (i := 203) (rfl : tables_1_1[203]? = some _))) rfl
theorem gm_173 : (.selects RX0 yX0_startAnew yX0_startAnew : Cond) ∈ gG := gm_t (List.mem_append_left _ (List.mem_of_getElem? (i := 204) (rfl : tables_1_1[204]? = some _))) rfl
theorem gm_174 : (.code yX0_startAnew cX0_startAnew 1 none : Cond) ∈ gG := gm_t (List.mem_append_left _ (List.mem_of_getElem? (i := 205) (rfl : tables_1_1[205]? = some _))) rfl
theorem gm_175 : (.methodLink RX0 51 yX1_clear : Cond) ∈ gG := gm_t (List.mem_append_left _ (List.mem_of_getElem? (i := 206) (rfl : tables_1_1[206]? = some _))) rfl
theorem gm_176 : (.instanceMethod yX1_clear : Cond) ∈ gG := gm_t (List.mem_append_left _ (List.mem_of_getElem? (i := 207) (rfl : tables_1_1[207]? = some _))) rfl
theorem gm_177 : (.selects RX1 yX1_clear yX1_clear : Cond) ∈ gG := gm_t (List.mem_append_left _ (List.mem_of_getElem? (i := 208) (rfl : tables_1_1[208]? = some _))) rfl
theorem gm_178 : (.code yX1_clear cX1_clear 2 none : Cond) ∈ gG := gm_t (List.mem_append_left _ (List.mem_of_getElem? (i := 209) (rfl : tables_1_1[209]? = some _))) rfl
theorem gm_179 : (.methodLink RL 31 yX2_about : Cond) ∈ gG := gm_t (List.mem_append_left _ (List.mem_of_getElem? (i := 210) (rfl : tables_1_1[210]? = some _))) rfl
theorem gm_180 : (.instanceMethod yX2_about : Cond) ∈ gG := gm_t (List.mem_append_left _ (List.mem_of_getElem? (i := 211) (rfl : tables_1_1[211]? = some _))) rfl
theorem gm_181 : (.selects RX2 yX2_about yX2_about : Cond) ∈ gG := gm_t (List.mem_append_left _ (List.mem_of_getElem? (i := 212) (rfl : tables_1_1[212]? = some _))) rfl
theorem gm_182 : (.code yX2_about cX2_about 3 (some .int) : Cond) ∈ gG := gm_t (List.mem_append_left _ (List.mem_of_getElem? (i := 213) (rfl : tables_1_1[213]? = some _))) rfl
theorem gm_183 : (.methodLink RX2 79 yX2_isHouse : Cond) ∈ gG := gm_t (List.mem_append_left _ (List.mem_of_getElem? (i := 214) (rfl : tables_1_1[214]? = some _))) rfl
theorem gm_184 : (.instanceMethod yX2_isHouse : Cond) ∈ gG := gm_t (List.mem_append_left _ (List.mem_of_getElem? (i := 216) (rfl : tables_1_1[216]? = some _))) rfl
theorem gm_185 : (.code yX2_isHouse cX2_isHouse 2 (some .boolean) : Cond) ∈ gG := gm_t (List.mem_append_left _ (List.mem_of_getElem? (i := 217) (rfl : tables_1_1[217]? = some _))) rfl
theorem gm_186 : (.methodLink RX2 83 yX2_numberNow : Cond) ∈ gG := gm_t (List.mem_append_left _ (List.mem_of_getElem? (i := 218) (rfl : tables_1_1[218]? = some _))) rfl
theorem gm_187 : (.instanceMethod yX2_numberNow : Cond) ∈ gG := gm_t (List.mem_append_left _ (List.mem_of_getElem? (i := 220) (rfl : tables_1_1[220]? = some _))) rfl
theorem gm_188 : (.code yX2_numberNow cX2_numberNow 2 (some .int) : Cond) ∈ gG := gm_t (List.mem_append_left _ (List.mem_of_getElem? (i := 221) (rfl : tables_1_1[221]? = some _))) rfl
theorem gm_189 : (.methodLink RX2 247 yX2_numberAt : Cond) ∈ gG := gm_t (List.mem_append_left _ (List.mem_of_getElem? (i := 222) (rfl : tables_1_1[222]? = some _))) rfl
theorem gm_190 : (.instanceMethod yX2_numberAt : Cond) ∈ gG := gm_t (List.mem_append_left _ (List.mem_of_getElem? (i := 224) (rfl : tables_1_1[224]? = some _))) rfl
theorem gm_191 : (.code yX2_numberAt cX2_numberAt 3 (some .int) : Cond) ∈ gG := gm_t (List.mem_append_left _ (List.mem_of_getElem? (i := 225) (rfl : tables_1_1[225]? = some _))) rfl
theorem gm_192 : (.methodLink RX2 156 yX2_numberOf : Cond) ∈ gG := gm_t (List.mem_append_left _ (List.mem_of_getElem? (i := 226) (rfl : tables_1_1[226]? = some _))) rfl
theorem gm_193 : (.static yX2_numberOf : Cond) ∈ gG := gm_t (List.mem_append_left _ (List.mem_of_getElem? (i := 227) (rfl : tables_1_1[227]? = some _))) rfl
theorem gm_194 : (.code yX2_numberOf cX2_numberOf 2 (some .int) : Cond) ∈ gG := gm_t (List.mem_append_left _ (List.mem_of_getElem? (i := 228) (rfl : tables_1_1[228]? = some _))) rfl
theorem gm_195 : (.methodLink RX2 89 yX2_owedBy : Cond) ∈ gG := gm_t (List.mem_append_left _ (List.mem_of_getElem? (i := 229) (rfl : tables_1_1[229]? = some _))) rfl
theorem gm_196 : (.instanceMethod yX2_owedBy : Cond) ∈ gG := gm_t (List.mem_append_left _ (List.mem_of_getElem? (i := 231) (rfl : tables_1_1[231]? = some _))) rfl
theorem gm_197 : (.code yX2_owedBy cX2_owedBy 4 (some .int) : Cond) ∈ gG := gm_t (List.mem_append_left _ (List.mem_of_getElem? (i := 232) (rfl : tables_1_1[232]? = some _))) rfl
theorem gm_198 : (.methodLink RX2 132 yX2_houseWith : Cond) ∈ gG := gm_t (List.mem_append_left _ (List.mem_of_getElem? (i := 233) (rfl : tables_1_1[233]? = some _))) rfl
theorem gm_199 : (.instanceMethod yX2_houseWith : Cond) ∈ gG := gm_t (List.mem_append_left _ (List.mem_of_getElem? (i := 235) (rfl : tables_1_1[235]? = some _))) rfl
theorem gm_200 : (.code yX2_houseWith cX2_houseWith 4 (some .int) : Cond) ∈ gG := gm_t (List.mem_append_left _ (List.mem_of_getElem? (i := 236) (rfl : tables_1_1[236]? = some _))) rfl
theorem gm_201 : (.methodLink RX2 129 yX2_numberOn : Cond) ∈ gG := gm_t (List.mem_append_left _ (List.mem_of_getElem? (i := 237) (rfl : tables_1_1[237]? = some _))) rfl
theorem gm_202 : (.instanceMethod yX2_numberOn : Cond) ∈ gG := gm_t (List.mem_append_left _ (List.mem_of_getElem? (i := 239) (rfl : tables_1_1[239]? = some _))) rfl
theorem gm_203 : (.code yX2_numberOn cX2_numberOn 4 (some .int) : Cond) ∈ gG := gm_t (List.mem_append_right _ (List.mem_append_left _ (List.mem_of_getElem? (i := 0) (rfl : tables_1_2[0]? = some _)))) rfl
theorem gm_204 : (.methodLink RX2 118 yX2_cellOf : Cond) ∈ gG := gm_t (List.mem_append_right _ (List.mem_append_left _ (List.mem_of_getElem? (i := 1) (rfl : tables_1_2[1]? = some _)))) rfl
theorem gm_205 : (.static yX2_cellOf : Cond) ∈ gG := gm_t (List.mem_append_right _ (List.mem_append_left _ (List.mem_of_getElem? (i := 2) (rfl : tables_1_2[2]? = some _)))) rfl
theorem gm_206 : (.code yX2_cellOf cX2_cellOf 2 (some .int) : Cond) ∈ gG := gm_t (List.mem_append_right _ (List.mem_append_left _ (List.mem_of_getElem? (i := 3) (rfl : tables_1_2[3]? = some _)))) rfl
theorem gm_207 : (.methodLink RX2 92 yX2_turnInWalk : Cond) ∈ gG := gm_t (List.mem_append_right _ (List.mem_append_left _ (List.mem_of_getElem? (i := 4) (rfl : tables_1_2[4]? = some _)))) rfl
theorem gm_208 : (.instanceMethod yX2_turnInWalk : Cond) ∈ gG := gm_t (List.mem_append_right _ (List.mem_append_left _ (List.mem_of_getElem? (i := 6) (rfl : tables_1_2[6]? = some _)))) rfl
theorem gm_209 : (.code yX2_turnInWalk cX2_turnInWalk 7 (some .int) : Cond) ∈ gG := gm_t (List.mem_append_right _ (List.mem_append_left _ (List.mem_of_getElem? (i := 7) (rfl : tables_1_2[7]? = some _)))) rfl
theorem gm_210 : (.methodLink RL 36 yX2_as : Cond) ∈ gG := gm_t (List.mem_append_right _ (List.mem_append_left _ (List.mem_of_getElem? (i := 8) (rfl : tables_1_2[8]? = some _)))) rfl
theorem gm_211 : (.instanceMethod yX2_as : Cond) ∈ gG := gm_t (List.mem_append_right _ (List.mem_append_left _ (List.mem_of_getElem? (i := 9) (rfl : tables_1_2[9]? = some _)))) rfl
theorem gm_212 : (.selects RX2 yX2_as yX2_as : Cond) ∈ gG := gm_t (List.mem_append_right _ (List.mem_append_left _ (List.mem_of_getElem? (i := 10) (rfl : tables_1_2[10]? = some _)))) rfl
theorem gm_213 : (.code yX2_as cX2_as 3 (some .int) : Cond) ∈ gG := gm_t (List.mem_append_right _ (List.mem_append_left _ (List.mem_of_getElem? (i := 11) (rfl : tables_1_2[11]? = some _)))) rfl
theorem gm_214 : (.methodLink RX2 96 yX2_isA : Cond) ∈ gG := gm_t (List.mem_append_right _ (List.mem_append_left _ (List.mem_of_getElem? (i := 12) (rfl : tables_1_2[12]? = some _)))) rfl
theorem gm_215 : (.static yX2_isA : Cond) ∈ gG := gm_t (List.mem_append_right _ (List.mem_append_left _ (List.mem_of_getElem? (i := 13) (rfl : tables_1_2[13]? = some _)))) rfl
theorem gm_216 : (.code yX2_isA cX2_isA 2 (some .boolean) : Cond) ∈ gG := gm_t (List.mem_append_right _ (List.mem_append_left _ (List.mem_of_getElem? (i := 14) (rfl : tables_1_2[14]? = some _)))) rfl
theorem gm_217 : (.methodLink RL 40 yX2_birth : Cond) ∈ gG := gm_t (List.mem_append_right _ (List.mem_append_left _ (List.mem_of_getElem? (i := 15) (rfl : tables_1_2[15]? = some _)))) rfl
theorem gm_218 : (.instanceMethod yX2_birth : Cond) ∈ gG := gm_t (List.mem_append_right _ (List.mem_append_left _ (List.mem_of_getElem? (i := 16) (rfl : tables_1_2[16]? = some _)))) rfl
theorem gm_219 : (.selects RX2 yX2_birth yX2_birth : Cond) ∈ gG := gm_t (List.mem_append_right _ (List.mem_append_left _ (List.mem_of_getElem? (i := 17) (rfl : tables_1_2[17]? = some _)))) rfl
theorem gm_220 : (.code yX2_birth cX2_birth 2 (some .int) : Cond) ∈ gG := gm_t (List.mem_append_right _ (List.mem_append_left _ (List.mem_of_getElem? (i := 18) (rfl : tables_1_2[18]? = some _)))) rfl
theorem gm_221 : (.methodLink RX2 99 yX2_bear : Cond) ∈ gG := gm_t (List.mem_append_right _ (List.mem_append_left _ (List.mem_of_getElem? (i := 19) (rfl : tables_1_2[19]? = some _)))) rfl
theorem gm_222 : (.instanceMethod yX2_bear : Cond) ∈ gG := gm_t (List.mem_append_right _ (List.mem_append_left _ (List.mem_of_getElem? (i := 21) (rfl : tables_1_2[21]? = some _)))) rfl
theorem gm_223 : (.code yX2_bear cX2_bear 3 none : Cond) ∈ gG := gm_t (List.mem_append_right _ (List.mem_append_left _ (List.mem_of_getElem? (i := 22) (rfl : tables_1_2[22]? = some _)))) rfl
theorem gm_224 : (.methodLink RX2 109 yX2_lendsACradle : Cond) ∈ gG := gm_t (List.mem_append_right _ (List.mem_append_left _ (List.mem_of_getElem? (i := 23) (rfl : tables_1_2[23]? = some _)))) rfl
theorem gm_225 : (.instanceMethod yX2_lendsACradle : Cond) ∈ gG := gm_t (List.mem_append_right _ (List.mem_append_left _ (List.mem_of_getElem? (i := 25) (rfl : tables_1_2[25]? = some _)))) rfl
theorem gm_226 : (.code yX2_lendsACradle cX2_lendsACradle 2 (some .boolean) : Cond) ∈ gG := gm_t (List.mem_append_right _ (List.mem_append_left _ (List.mem_of_getElem? (i := 26) (rfl : tables_1_2[26]? = some _)))) rfl
theorem gm_227 : (.methodLink RX2 106 yX1_add : Cond) ∈ gG := gm_t (List.mem_append_right _ (List.mem_append_left _ (List.mem_of_getElem? (i := 27) (rfl : tables_1_2[27]? = some _)))) rfl
theorem gm_228 : (.instanceMethod yX1_add : Cond) ∈ gG := gm_t (List.mem_append_right _ (List.mem_append_left _ (List.mem_of_getElem? (i := 28) (rfl : tables_1_2[28]? = some _)))) rfl
theorem gm_229 : (.selects RX1 yX1_add yX1_add : Cond) ∈ gG := gm_t (List.mem_append_right _ (List.mem_append_left _ (List.mem_of_getElem? (i := 29) (rfl : tables_1_2[29]? = some _)))) rfl
theorem gm_230 : (.code yX1_add cX1_add 3 none : Cond) ∈ gG := gm_t (List.mem_append_right _ (List.mem_append_left _ (List.mem_of_getElem? (i := 30) (rfl : tables_1_2[30]? = some _)))) rfl
theorem gm_231 : (.methodLink RX1 13 yX1_at : Cond) ∈ gG := gm_t (List.mem_append_right _ (List.mem_append_left _ (List.mem_of_getElem? (i := 31) (rfl : tables_1_2[31]? = some _)))) rfl
theorem gm_232 : (.methodLink RX1 17 yX1_put : Cond) ∈ gG := gm_t (List.mem_append_right _ (List.mem_append_left _ (List.mem_of_getElem? (i := 32) (rfl : tables_1_2[32]? = some _)))) rfl
theorem gm_233 : (.methodLink RL 44 yX2_day : Cond) ∈ gG := gm_t (List.mem_append_right _ (List.mem_append_left _ (List.mem_of_getElem? (i := 33) (rfl : tables_1_2[33]? = some _)))) rfl
theorem gm_234 : (.instanceMethod yX2_day : Cond) ∈ gG := gm_t (List.mem_append_right _ (List.mem_append_left _ (List.mem_of_getElem? (i := 34) (rfl : tables_1_2[34]? = some _)))) rfl
theorem gm_235 : (.selects RX2 yX2_day yX2_day : Cond) ∈ gG := gm_t (List.mem_append_right _ (List.mem_append_left _ (List.mem_of_getElem? (i := 35) (rfl : tables_1_2[35]? = some _)))) rfl
theorem gm_236 : (.code yX2_day cX2_day 2 (some .int) : Cond) ∈ gG := gm_t (List.mem_append_right _ (List.mem_append_left _ (List.mem_of_getElem? (i := 36) (rfl : tables_1_2[36]? = some _)))) rfl
theorem gm_237 : (.methodLink RX2 122 yX2_growOlder : Cond) ∈ gG := gm_t (List.mem_append_right _ (List.mem_append_left _ (List.mem_of_getElem? (i := 37) (rfl : tables_1_2[37]? = some _)))) rfl
theorem gm_238 : (.instanceMethod yX2_growOlder : Cond) ∈ gG := gm_t (List.mem_append_right _ (List.mem_append_left _ (List.mem_of_getElem? (i := 39) (rfl : tables_1_2[39]? = some _)))) rfl
theorem gm_239 : (.code yX2_growOlder cX2_growOlder 3 none : Cond) ∈ gG := gm_t (List.mem_append_right _ (List.mem_append_left _ (List.mem_of_getElem? (i := 40) (rfl : tables_1_2[40]? = some _)))) rfl
theorem gm_240 : (.methodLink RX2 159 yX2_ageNextDay : Cond) ∈ gG := gm_t (List.mem_append_right _ (List.mem_append_left _ (List.mem_of_getElem? (i := 41) (rfl : tables_1_2[41]? = some _)))) rfl
theorem gm_241 : (.static yX2_ageNextDay : Cond) ∈ gG := gm_t (List.mem_append_right _ (List.mem_append_left _ (List.mem_of_getElem? (i := 42) (rfl : tables_1_2[42]? = some _)))) rfl
theorem gm_242 : (.code yX2_ageNextDay cX2_ageNextDay 2 (some .int) : Cond) ∈ gG := gm_t (List.mem_append_right _ (List.mem_append_left _ (List.mem_of_getElem? (i := 43) (rfl : tables_1_2[43]? = some _)))) rfl
theorem gm_243 : (.methodLink RL 48 yX2_then : Cond) ∈ gG := gm_t (List.mem_append_right _ (List.mem_append_left _ (List.mem_of_getElem? (i := 44) (rfl : tables_1_2[44]? = some _)))) rfl
theorem gm_244 : (.instanceMethod yX2_then : Cond) ∈ gG := gm_t (List.mem_append_right _ (List.mem_append_left _ (List.mem_of_getElem? (i := 45) (rfl : tables_1_2[45]? = some _)))) rfl
theorem gm_245 : (.selects RX2 yX2_then yX2_then : Cond) ∈ gG := gm_t (List.mem_append_right _ (List.mem_append_left _ (List.mem_of_getElem? (i := 46) (rfl : tables_1_2[46]? = some _)))) rfl
theorem gm_246 : (.code yX2_then cX2_then 3 (some .int) : Cond) ∈ gG := gm_t (List.mem_append_right _ (List.mem_append_left _ (List.mem_of_getElem? (i := 47) (rfl : tables_1_2[47]? = some _)))) rfl
theorem gm_247 : (.methodLink RX2 126 yX2_isDay : Cond) ∈ gG := gm_t (List.mem_append_right _ (List.mem_append_left _ (List.mem_of_getElem? (i := 48) (rfl : tables_1_2[48]? = some _)))) rfl
theorem gm_248 : (.instanceMethod yX2_isDay : Cond) ∈ gG := gm_t (List.mem_append_right _ (List.mem_append_left _ (List.mem_of_getElem? (i := 50) (rfl : tables_1_2[50]? = some _)))) rfl
theorem gm_249 : (.code yX2_isDay cX2_isDay 2 (some .boolean) : Cond) ∈ gG := gm_t (List.mem_append_right _ (List.mem_append_left _ (List.mem_of_getElem? (i := 51) (rfl : tables_1_2[51]? = some _)))) rfl
theorem gm_250 : (.methodLink RL 52 yX2_goesTo : Cond) ∈ gG := gm_t (List.mem_append_right _ (List.mem_append_left _ (List.mem_of_getElem? (i := 52) (rfl : tables_1_2[52]? = some _)))) rfl
theorem gm_251 : (.instanceMethod yX2_goesTo : Cond) ∈ gG := gm_t (List.mem_append_right _ (List.mem_append_left _ (List.mem_of_getElem? (i := 53) (rfl : tables_1_2[53]? = some _)))) rfl
theorem gm_252 : (.selects RX2 yX2_goesTo yX2_goesTo : Cond) ∈ gG := gm_t (List.mem_append_right _ (List.mem_append_left _ (List.mem_of_getElem? (i := 54) (rfl : tables_1_2[54]? = some _)))) rfl
theorem gm_253 : (.code yX2_goesTo cX2_goesTo 3 (some .int) : Cond) ∈ gG := gm_t (List.mem_append_right _ (List.mem_append_left _ (List.mem_of_getElem? (i := 55) (rfl : tables_1_2[55]? = some _)))) rfl
theorem gm_254 : (.methodLink RL 56 yX2_walk : Cond) ∈ gG := gm_t (List.mem_append_right _ (List.mem_append_left _ (List.mem_of_getElem? (i := 56) (rfl : tables_1_2[56]? = some _)))) rfl
theorem gm_255 : (.instanceMethod yX2_walk : Cond) ∈ gG := gm_t (List.mem_append_right _ (List.mem_append_left _ (List.mem_of_getElem? (i := 57) (rfl : tables_1_2[57]? = some _)))) rfl
theorem gm_256 : (.selects RX2 yX2_walk yX2_walk : Cond) ∈ gG := gm_t (List.mem_append_right _ (List.mem_append_left _ (List.mem_of_getElem? (i := 58) (rfl : tables_1_2[58]? = some _)))) rfl
theorem gm_257 : (.code yX2_walk cX2_walk 1 (some .int) : Cond) ∈ gG := gm_t (List.mem_append_right _ (List.mem_append_left _ (List.mem_of_getElem? (i := 59) (rfl : tables_1_2[59]? = some _)))) rfl
theorem gm_258 : (.methodLink RX2 135 yX2_lengthOfWalk : Cond) ∈ gG := gm_t (List.mem_append_right _ (List.mem_append_left _ (List.mem_of_getElem? (i := 60) (rfl : tables_1_2[60]? = some _)))) rfl
theorem gm_259 : (.instanceMethod yX2_lengthOfWalk : Cond) ∈ gG := gm_t (List.mem_append_right _ (List.mem_append_left _ (List.mem_of_getElem? (i := 62) (rfl : tables_1_2[62]? = some _)))) rfl
theorem gm_260 : (.code yX2_lengthOfWalk cX2_lengthOfWalk 6 (some .int) : Cond) ∈ gG := gm_t (List.mem_append_right _ (List.mem_append_left _ (List.mem_of_getElem? (i := 63) (rfl : tables_1_2[63]? = some _)))) rfl
theorem gm_261 : (.methodLink RX2 250 yX2_houseOfTurn : Cond) ∈ gG := gm_t (List.mem_append_right _ (List.mem_append_left _ (List.mem_of_getElem? (i := 64) (rfl : tables_1_2[64]? = some _)))) rfl
theorem gm_262 : (.instanceMethod yX2_houseOfTurn : Cond) ∈ gG := gm_t (List.mem_append_right _ (List.mem_append_left _ (List.mem_of_getElem? (i := 66) (rfl : tables_1_2[66]? = some _)))) rfl
theorem gm_263 : (.code yX2_houseOfTurn cX2_houseOfTurn 4 (some .int) : Cond) ∈ gG := gm_t (List.mem_append_right _ (List.mem_append_left _ (List.mem_of_getElem? (i := 67) (rfl : tables_1_2[67]? = some _)))) rfl
theorem gm_264 : (.methodLink RX2 253 yJ9_abs_0f7a4 : Cond) ∈ gG := gm_t (List.mem_append_right _ (List.mem_append_left _ (List.mem_of_getElem? (i := 68) (rfl : tables_1_2[68]? = some _)))) rfl
theorem gm_265 : (.static yJ9_abs_0f7a4 : Cond) ∈ gG := gm_t (List.mem_append_right _ (List.mem_append_left _ (List.mem_of_getElem? (i := 69) (rfl : tables_1_2[69]? = some _)))) rfl
theorem gm_266 : (.code yJ9_abs_0f7a4 cJ9_abs_0f7a4 1 (some .int) : Cond) ∈ gG := gm_t (List.mem_append_right _ (List.mem_append_left _ (List.mem_of_getElem? (i := 70) (rfl : tables_1_2[70]? = some _)))) rfl
theorem gm_267 : (.methodLink RL 60 yX2_debt : Cond) ∈ gG := gm_t (List.mem_append_right _ (List.mem_append_left _ (List.mem_of_getElem? (i := 71) (rfl : tables_1_2[71]? = some _)))) rfl
theorem gm_268 : (.instanceMethod yX2_debt : Cond) ∈ gG := gm_t (List.mem_append_right _ (List.mem_append_left _ (List.mem_of_getElem? (i := 72) (rfl : tables_1_2[72]? = some _)))) rfl
theorem gm_269 : (.selects RX2 yX2_debt yX2_debt : Cond) ∈ gG := gm_t (List.mem_append_right _ (List.mem_append_left _ (List.mem_of_getElem? (i := 73) (rfl : tables_1_2[73]? = some _)))) rfl
theorem gm_270 : (.code yX2_debt cX2_debt 3 (some .int) : Cond) ∈ gG := gm_t (List.mem_append_right _ (List.mem_append_left _ (List.mem_of_getElem? (i := 74) (rfl : tables_1_2[74]? = some _)))) rfl
theorem gm_271 : (.methodLink RL 64 yX2_pay : Cond) ∈ gG := gm_t (List.mem_append_right _ (List.mem_append_left _ (List.mem_of_getElem? (i := 75) (rfl : tables_1_2[75]? = some _)))) rfl
theorem gm_272 : (.instanceMethod yX2_pay : Cond) ∈ gG := gm_t (List.mem_append_right _ (List.mem_append_left _ (List.mem_of_getElem? (i := 76) (rfl : tables_1_2[76]? = some _)))) rfl
theorem gm_273 : (.selects RX2 yX2_pay yX2_pay : Cond) ∈ gG := gm_t (List.mem_append_right _ (List.mem_append_left _ (List.mem_of_getElem? (i := 77) (rfl : tables_1_2[77]? = some _)))) rfl
theorem gm_274 : (.code yX2_pay cX2_pay 3 (some .int) : Cond) ∈ gG := gm_t (List.mem_append_right _ (List.mem_append_left _ (List.mem_of_getElem? (i := 78) (rfl : tables_1_2[78]? = some _)))) rfl
theorem gm_275 : (.methodLink RL 68 yX2_cheap : Cond) ∈ gG := gm_t (List.mem_append_right _ (List.mem_append_left _ (List.mem_of_getElem? (i := 79) (rfl : tables_1_2[79]? = some _)))) rfl
theorem gm_276 : (.instanceMethod yX2_cheap : Cond) ∈ gG := gm_t (List.mem_append_right _ (List.mem_append_left _ (List.mem_of_getElem? (i := 80) (rfl : tables_1_2[80]? = some _)))) rfl
theorem gm_277 : (.selects RX2 yX2_cheap yX2_cheap : Cond) ∈ gG := gm_t (List.mem_append_right _ (List.mem_append_left _ (List.mem_of_getElem? (i := 81) (rfl : tables_1_2[81]? = some _)))) rfl
theorem gm_278 : (.code yX2_cheap cX2_cheap 4 (some .int) : Cond) ∈ gG := gm_t (List.mem_append_right _ (List.mem_append_left _ (List.mem_of_getElem? (i := 82) (rfl : tables_1_2[82]? = some _)))) rfl
theorem gm_279 : (.methodLink RX2 148 yX2_cheapestSet : Cond) ∈ gG := gm_t (List.mem_append_right _ (List.mem_append_left _ (List.mem_of_getElem? (i := 83) (rfl : tables_1_2[83]? = some _)))) rfl
theorem gm_280 : (.instanceMethod yX2_cheapestSet : Cond) ∈ gG := gm_t (List.mem_append_right _ (List.mem_append_left _ (List.mem_of_getElem? (i := 85) (rfl : tables_1_2[85]? = some _)))) rfl
theorem gm_281 : (.code yX2_cheapestSet cX2_cheapestSet 5 (some .int) : Cond) ∈ gG := gm_t (List.mem_append_right _ (List.mem_append_left _ (List.mem_of_getElem? (i := 86) (rfl : tables_1_2[86]? = some _)))) rfl
theorem gm_282 : (.methodLink RX2 151 yJ6_bitCount_0f7a4 : Cond) ∈ gG := gm_t (List.mem_append_right _ (List.mem_append_left _ (List.mem_of_getElem? (i := 87) (rfl : tables_1_2[87]? = some _)))) rfl
theorem gm_283 : (.static yJ6_bitCount_0f7a4 : Cond) ∈ gG := gm_t (List.mem_append_right _ (List.mem_append_left _ (List.mem_of_getElem? (i := 88) (rfl : tables_1_2[88]? = some _)))) rfl
theorem gm_284 : (.code yJ6_bitCount_0f7a4 cJ6_bitCount_0f7a4 1 (some .int) : Cond) ∈ gG := gm_t (List.mem_append_right _ (List.mem_append_left _ (List.mem_of_getElem? (i := 89) (rfl : tables_1_2[89]? = some _)))) rfl
theorem gm_285 : (.constant RJ6 265 (1431655765 : Int32) : Cond) ∈ gG := gm_t (List.mem_append_right _ (List.mem_append_left _ (List.mem_of_getElem? (i := 90) (rfl : tables_1_2[90]? = some _)))) rfl
theorem gm_286 : (.constant RJ6 266 (858993459 : Int32) : Cond) ∈ gG := gm_t (List.mem_append_right _ (List.mem_append_left _ (List.mem_of_getElem? (i := 91) (rfl : tables_1_2[91]? = some _)))) rfl
theorem gm_287 : (.constant RJ6 267 (252645135 : Int32) : Cond) ∈ gG := gm_t (List.mem_append_right _ (List.mem_append_left _ (List.mem_of_getElem? (i := 92) (rfl : tables_1_2[92]? = some _)))) rfl
theorem gm_288 : (.methodLink RX2 258 yX2_mayAllBear : Cond) ∈ gG := gm_t (List.mem_append_right _ (List.mem_append_left _ (List.mem_of_getElem? (i := 93) (rfl : tables_1_2[93]? = some _)))) rfl
theorem gm_289 : (.instanceMethod yX2_mayAllBear : Cond) ∈ gG := gm_t (List.mem_append_right _ (List.mem_append_left _ (List.mem_of_getElem? (i := 95) (rfl : tables_1_2[95]? = some _)))) rfl
theorem gm_290 : (.code yX2_mayAllBear cX2_mayAllBear 3 (some .boolean) : Cond) ∈ gG := gm_t (List.mem_append_right _ (List.mem_append_left _ (List.mem_of_getElem? (i := 96) (rfl : tables_1_2[96]? = some _)))) rfl
theorem gm_291 : (.methodLink RX2 264 yX2_isIn : Cond) ∈ gG := gm_t (List.mem_append_right _ (List.mem_append_left _ (List.mem_of_getElem? (i := 97) (rfl : tables_1_2[97]? = some _)))) rfl
theorem gm_292 : (.static yX2_isIn : Cond) ∈ gG := gm_t (List.mem_append_right _ (List.mem_append_left _ (List.mem_of_getElem? (i := 98) (rfl : tables_1_2[98]? = some _)))) rfl
theorem gm_293 : (.code yX2_isIn cX2_isIn 2 (some .boolean) : Cond) ∈ gG := gm_t (List.mem_append_right _ (List.mem_append_left _ (List.mem_of_getElem? (i := 99) (rfl : tables_1_2[99]? = some _)))) rfl
theorem gm_294 : (.methodLink RX2 261 yX2_numbersBy : Cond) ∈ gG := gm_t (List.mem_append_right _ (List.mem_append_left _ (List.mem_of_getElem? (i := 100) (rfl : tables_1_2[100]? = some _)))) rfl
theorem gm_295 : (.instanceMethod yX2_numbersBy : Cond) ∈ gG := gm_t (List.mem_append_right _ (List.mem_append_left _ (List.mem_of_getElem? (i := 102) (rfl : tables_1_2[102]? = some _)))) rfl
theorem gm_296 : (.code yX2_numbersBy cX2_numbersBy 3 (some .int) : Cond) ∈ gG := gm_t (List.mem_append_right _ (List.mem_append_left _ (List.mem_of_getElem? (i := 103) (rfl : tables_1_2[103]? = some _)))) rfl
theorem gm_297 : (.methodLink RX2 180 yX1_take : Cond) ∈ gG := gm_t (List.mem_append_right _ (List.mem_append_left _ (List.mem_of_getElem? (i := 104) (rfl : tables_1_2[104]? = some _)))) rfl
theorem gm_298 : (.instanceMethod yX1_take : Cond) ∈ gG := gm_t (List.mem_append_right _ (List.mem_append_left _ (List.mem_of_getElem? (i := 105) (rfl : tables_1_2[105]? = some _)))) rfl
theorem gm_299 : (.selects RX1 yX1_take yX1_take : Cond) ∈ gG := gm_t (List.mem_append_right _ (List.mem_append_left _ (List.mem_of_getElem? (i := 106) (rfl : tables_1_2[106]? = some _)))) rfl
theorem gm_300 : (.code yX1_take cX1_take 3 none : Cond) ∈ gG := gm_t (List.mem_append_right _ (List.mem_append_left _ (List.mem_of_getElem? (i := 107) (rfl : tables_1_2[107]? = some _)))) rfl
theorem gm_301 : (.methodLink RX2 192 yX2_allNumbers : Cond) ∈ gG := gm_t (List.mem_append_right _ (List.mem_append_left _ (List.mem_of_getElem? (i := 108) (rfl : tables_1_2[108]? = some _)))) rfl
theorem gm_302 : (.instanceMethod yX2_allNumbers : Cond) ∈ gG := gm_t (List.mem_append_right _ (List.mem_append_left _ (List.mem_of_getElem? (i := 110) (rfl : tables_1_2[110]? = some _)))) rfl
theorem gm_303 : (.code yX2_allNumbers cX2_allNumbers 4 (some .int) : Cond) ∈ gG := gm_t (List.mem_append_right _ (List.mem_append_left _ (List.mem_of_getElem? (i := 111) (rfl : tables_1_2[111]? = some _)))) rfl
theorem gm_304 : (.methodLink RL 72 yX2_when : Cond) ∈ gG := gm_t (List.mem_append_right _ (List.mem_append_left _ (List.mem_of_getElem? (i := 112) (rfl : tables_1_2[112]? = some _)))) rfl
theorem gm_305 : (.instanceMethod yX2_when : Cond) ∈ gG := gm_t (List.mem_append_right _ (List.mem_append_left _ (List.mem_of_getElem? (i := 113) (rfl : tables_1_2[113]? = some _)))) rfl
theorem gm_306 : (.selects RX2 yX2_when yX2_when : Cond) ∈ gG := gm_t (List.mem_append_right _ (List.mem_append_left _ (List.mem_of_getElem? (i := 114) (rfl : tables_1_2[114]? = some _)))) rfl
theorem gm_307 : (.code yX2_when cX2_when 6 (some .int) : Cond) ∈ gG := gm_t (List.mem_append_right _ (List.mem_append_left _ (List.mem_of_getElem? (i := 115) (rfl : tables_1_2[115]? = some _)))) rfl
theorem gm_308 : (.methodLink RL 76 yX2_hear : Cond) ∈ gG := gm_t (List.mem_append_right _ (List.mem_append_left _ (List.mem_of_getElem? (i := 116) (rfl : tables_1_2[116]? = some _)))) rfl
theorem gm_309 : (.instanceMethod yX2_hear : Cond) ∈ gG := gm_t (List.mem_append_right _ (List.mem_append_left _ (List.mem_of_getElem? (i := 117) (rfl : tables_1_2[117]? = some _)))) rfl
theorem gm_310 : (.selects RX2 yX2_hear yX2_hear : Cond) ∈ gG := gm_t (List.mem_append_right _ (List.mem_append_left _ (List.mem_of_getElem? (i := 118) (rfl : tables_1_2[118]? = some _)))) rfl
theorem gm_311 : (.code yX2_hear cX2_hear 3 (some .int) : Cond) ∈ gG := gm_t (List.mem_append_right _ (List.mem_append_left _ (List.mem_of_getElem? (i := 119) (rfl : tables_1_2[119]? = some _)))) rfl
theorem gm_312 : (.methodLink RL 80 yX2_forget : Cond) ∈ gG := gm_t (List.mem_append_right _ (List.mem_append_left _ (List.mem_of_getElem? (i := 120) (rfl : tables_1_2[120]? = some _)))) rfl
theorem gm_313 : (.instanceMethod yX2_forget : Cond) ∈ gG := gm_t (List.mem_append_right _ (List.mem_append_left _ (List.mem_of_getElem? (i := 121) (rfl : tables_1_2[121]? = some _)))) rfl
theorem gm_314 : (.selects RX2 yX2_forget yX2_forget : Cond) ∈ gG := gm_t (List.mem_append_right _ (List.mem_append_left _ (List.mem_of_getElem? (i := 122) (rfl : tables_1_2[122]? = some _)))) rfl
theorem gm_315 : (.code yX2_forget cX2_forget 2 (some .int) : Cond) ∈ gG := gm_t (List.mem_append_right _ (List.mem_append_left _ (List.mem_of_getElem? (i := 123) (rfl : tables_1_2[123]? = some _)))) rfl
theorem gm_316 : (.methodLink RL 84 yX2_days : Cond) ∈ gG := gm_t (List.mem_append_right _ (List.mem_append_left _ (List.mem_of_getElem? (i := 124) (rfl : tables_1_2[124]? = some _)))) rfl
theorem gm_317 : (.instanceMethod yX2_days : Cond) ∈ gG := gm_t (List.mem_append_right _ (List.mem_append_left _ (List.mem_of_getElem? (i := 125) (rfl : tables_1_2[125]? = some _)))) rfl
theorem gm_318 : (.selects RX2 yX2_days yX2_days : Cond) ∈ gG := gm_t (List.mem_append_right _ (List.mem_append_left _ (List.mem_of_getElem? (i := 126) (rfl : tables_1_2[126]? = some _)))) rfl
theorem gm_319 : (.code yX2_days cX2_days 5 (some .int) : Cond) ∈ gG := gm_t (List.mem_append_right _ (List.mem_append_left _ (List.mem_of_getElem? (i := 127) (rfl : tables_1_2[127]? = some _)))) rfl
theorem gm_320 : (.methodLink RX2 171 yX2_canHaveBeen : Cond) ∈ gG := gm_t (List.mem_append_right _ (List.mem_append_left _ (List.mem_of_getElem? (i := 128) (rfl : tables_1_2[128]? = some _)))) rfl
theorem gm_321 : (.instanceMethod yX2_canHaveBeen : Cond) ∈ gG := gm_t (List.mem_append_right _ (List.mem_append_left _ (List.mem_of_getElem? (i := 130) (rfl : tables_1_2[130]? = some _)))) rfl
theorem gm_322 : (.code yX2_canHaveBeen cX2_canHaveBeen 3 (some .boolean) : Cond) ∈ gG := gm_t (List.mem_append_right _ (List.mem_append_left _ (List.mem_of_getElem? (i := 131) (rfl : tables_1_2[131]? = some _)))) rfl
theorem gm_323 : (.methodLink RL 88 yX2_ask : Cond) ∈ gG := gm_t (List.mem_append_right _ (List.mem_append_left _ (List.mem_of_getElem? (i := 132) (rfl : tables_1_2[132]? = some _)))) rfl
theorem gm_324 : (.instanceMethod yX2_ask : Cond) ∈ gG := gm_t (List.mem_append_right _ (List.mem_append_left _ (List.mem_of_getElem? (i := 133) (rfl : tables_1_2[133]? = some _)))) rfl
theorem gm_325 : (.selects RX2 yX2_ask yX2_ask : Cond) ∈ gG := gm_t (List.mem_append_right _ (List.mem_append_left _ (List.mem_of_getElem? (i := 134) (rfl : tables_1_2[134]? = some _)))) rfl
theorem gm_326 : (.code yX2_ask cX2_ask 5 (some .int) : Cond) ∈ gG := gm_t (List.mem_append_right _ (List.mem_append_left _ (List.mem_of_getElem? (i := 135) (rfl : tables_1_2[135]? = some _)))) rfl
theorem gm_327 : (.methodLink RX2 174 yX2_markPossibleDays : Cond) ∈ gG := gm_t (List.mem_append_right _ (List.mem_append_left _ (List.mem_of_getElem? (i := 136) (rfl : tables_1_2[136]? = some _)))) rfl
theorem gm_328 : (.instanceMethod yX2_markPossibleDays : Cond) ∈ gG := gm_t (List.mem_append_right _ (List.mem_append_left _ (List.mem_of_getElem? (i := 138) (rfl : tables_1_2[138]? = some _)))) rfl
theorem gm_329 : (.code yX2_markPossibleDays cX2_markPossibleDays 4 (some .int) : Cond) ∈ gG := gm_t (List.mem_append_right _ (List.mem_append_left _ (List.mem_of_getElem? (i := 139) (rfl : tables_1_2[139]? = some _)))) rfl
theorem gm_330 : (.methodLink RX2 177 yX2_mostLeftBy : Cond) ∈ gG := gm_t (List.mem_append_right _ (List.mem_append_left _ (List.mem_of_getElem? (i := 140) (rfl : tables_1_2[140]? = some _)))) rfl
theorem gm_331 : (.instanceMethod yX2_mostLeftBy : Cond) ∈ gG := gm_t (List.mem_append_right _ (List.mem_append_left _ (List.mem_of_getElem? (i := 142) (rfl : tables_1_2[142]? = some _)))) rfl
theorem gm_332 : (.code yX2_mostLeftBy cX2_mostLeftBy 5 (some .int) : Cond) ∈ gG := gm_t (List.mem_append_right _ (List.mem_append_left _ (List.mem_of_getElem? (i := 143) (rfl : tables_1_2[143]? = some _)))) rfl
theorem gm_333 : (.methodLink RX2 267 yX1_clear : Cond) ∈ gG := gm_t (List.mem_append_right _ (List.mem_append_left _ (List.mem_of_getElem? (i := 144) (rfl : tables_1_2[144]? = some _)))) rfl
theorem gm_334 : (.methodLink RX2 270 yJ9_max_7cf53 : Cond) ∈ gG := gm_t (List.mem_append_right _ (List.mem_append_left _ (List.mem_of_getElem? (i := 145) (rfl : tables_1_2[145]? = some _)))) rfl
theorem gm_335 : (.static yJ9_max_7cf53 : Cond) ∈ gG := gm_t (List.mem_append_right _ (List.mem_append_left _ (List.mem_of_getElem? (i := 146) (rfl : tables_1_2[146]? = some _)))) rfl
theorem gm_336 : (.code yJ9_max_7cf53 cJ9_max_7cf53 2 (some .int) : Cond) ∈ gG := gm_t (List.mem_append_right _ (List.mem_append_left _ (List.mem_of_getElem? (i := 147) (rfl : tables_1_2[147]? = some _)))) rfl
theorem gm_337 : (.methodLink RL 92 yX2_years : Cond) ∈ gG := gm_t (List.mem_append_right _ (List.mem_append_left _ (List.mem_of_getElem? (i := 148) (rfl : tables_1_2[148]? = some _)))) rfl
theorem gm_338 : (.instanceMethod yX2_years : Cond) ∈ gG := gm_t (List.mem_append_right _ (List.mem_append_left _ (List.mem_of_getElem? (i := 149) (rfl : tables_1_2[149]? = some _)))) rfl
theorem gm_339 : (.selects RX2 yX2_years yX2_years : Cond) ∈ gG := gm_t (List.mem_append_right _ (List.mem_append_left _ (List.mem_of_getElem? (i := 150) (rfl : tables_1_2[150]? = some _)))) rfl
theorem gm_340 : (.code yX2_years cX2_years 7 (some .int) : Cond) ∈ gG := gm_t (List.mem_append_right _ (List.mem_append_left _ (List.mem_of_getElem? (i := 151) (rfl : tables_1_2[151]? = some _)))) rfl
theorem gm_341 : (.methodLink RX2 183 yX2_nextSeed : Cond) ∈ gG := gm_t (List.mem_append_right _ (List.mem_append_left _ (List.mem_of_getElem? (i := 152) (rfl : tables_1_2[152]? = some _)))) rfl
theorem gm_342 : (.static yX2_nextSeed : Cond) ∈ gG := gm_t (List.mem_append_right _ (List.mem_append_left _ (List.mem_of_getElem? (i := 153) (rfl : tables_1_2[153]? = some _)))) rfl
theorem gm_343 : (.code yX2_nextSeed cX2_nextSeed 1 (some .int) : Cond) ∈ gG := gm_t (List.mem_append_right _ (List.mem_append_left _ (List.mem_of_getElem? (i := 154) (rfl : tables_1_2[154]? = some _)))) rfl
theorem gm_344 : (.constantLong RX2 273 (1103515245 : Int64) : Cond) ∈ gG := gm_t (List.mem_append_right _ (List.mem_append_left _ (List.mem_of_getElem? (i := 155) (rfl : tables_1_2[155]? = some _)))) rfl
theorem gm_345 : (.constantLong RX2 275 (12345 : Int64) : Cond) ∈ gG := gm_t (List.mem_append_right _ (List.mem_append_left _ (List.mem_of_getElem? (i := 156) (rfl : tables_1_2[156]? = some _)))) rfl
theorem gm_346 : (.constantLong RX2 277 (2147483648 : Int64) : Cond) ∈ gG := gm_t (List.mem_append_right _ (List.mem_append_left _ (List.mem_of_getElem? (i := 157) (rfl : tables_1_2[157]? = some _)))) rfl
theorem gm_347 : (.methodLink RX2 186 yX2_drawnHouse : Cond) ∈ gG := gm_t (List.mem_append_right _ (List.mem_append_left _ (List.mem_of_getElem? (i := 158) (rfl : tables_1_2[158]? = some _)))) rfl
theorem gm_348 : (.instanceMethod yX2_drawnHouse : Cond) ∈ gG := gm_t (List.mem_append_right _ (List.mem_append_left _ (List.mem_of_getElem? (i := 160) (rfl : tables_1_2[160]? = some _)))) rfl
theorem gm_349 : (.code yX2_drawnHouse cX2_drawnHouse 2 (some .int) : Cond) ∈ gG := gm_t (List.mem_append_right _ (List.mem_append_left _ (List.mem_of_getElem? (i := 161) (rfl : tables_1_2[161]? = some _)))) rfl
theorem gm_350 : (.constant RX2 279 (65536 : Int32) : Cond) ∈ gG := gm_t (List.mem_append_right _ (List.mem_append_left _ (List.mem_of_getElem? (i := 162) (rfl : tables_1_2[162]? = some _)))) rfl
theorem gm_351 : (.methodLink RX2 189 yX2_bearIfMayBe : Cond) ∈ gG := gm_t (List.mem_append_right _ (List.mem_append_left _ (List.mem_of_getElem? (i := 163) (rfl : tables_1_2[163]? = some _)))) rfl
theorem gm_352 : (.instanceMethod yX2_bearIfMayBe : Cond) ∈ gG := gm_t (List.mem_append_right _ (List.mem_append_left _ (List.mem_of_getElem? (i := 165) (rfl : tables_1_2[165]? = some _)))) rfl
theorem gm_353 : (.code yX2_bearIfMayBe cX2_bearIfMayBe 3 none : Cond) ∈ gG := gm_t (List.mem_append_right _ (List.mem_append_left _ (List.mem_of_getElem? (i := 166) (rfl : tables_1_2[166]? = some _)))) rfl
theorem gm_354 : (.methodLink RL 97 yX2_image : Cond) ∈ gG := gm_t (List.mem_append_right _ (List.mem_append_left _ (List.mem_of_getElem? (i := 167) (rfl : tables_1_2[167]? = some _)))) rfl
theorem gm_355 : (.instanceMethod yX2_image : Cond) ∈ gG := gm_t (List.mem_append_right _ (List.mem_append_left _ (List.mem_of_getElem? (i := 168) (rfl : tables_1_2[168]? = some _)))) rfl
theorem gm_356 : (.selects RX2 yX2_image yX2_image : Cond) ∈ gG := gm_t (List.mem_append_right _ (List.mem_append_left _ (List.mem_of_getElem? (i := 169) (rfl : tables_1_2[169]? = some _)))) rfl
theorem gm_357 : (.code yX2_image cX2_image 1 (some .int) : Cond) ∈ gG := gm_t (List.mem_append_right _ (List.mem_append_left _ (List.mem_of_getElem? (i := 170) (rfl : tables_1_2[170]? = some _)))) rfl
theorem gm_358 : (.methodLink RX2 195 yX0_take : Cond) ∈ gG := gm_t (List.mem_append_right _ (List.mem_append_left _ (List.mem_of_getElem? (i := 171) (rfl : tables_1_2[171]? = some _)))) rfl
theorem gm_359 : (.instanceMethod yX0_take : Cond) ∈ gG := gm_t (List.mem_append_right _ (List.mem_append_left _ (List.mem_of_getElem? (i := 172) (rfl : tables_1_2[172]? = some _)))) rfl
theorem gm_360 : (.selects RX0 yX0_take yX0_take : Cond) ∈ gG := gm_t (List.mem_append_right _ (List.mem_append_left _ (List.mem_of_getElem? (i := 173) (rfl : tables_1_2[173]? = some _)))) rfl
theorem gm_361 : (.code yX0_take cX0_take 2 none : Cond) ∈ gG := gm_t (List.mem_append_right _ (List.mem_append_left _ (List.mem_of_getElem? (i := 174) (rfl : tables_1_2[174]? = some _)))) rfl
theorem gm_362 : (.methodLink RX0 54 yX1_take : Cond) ∈ gG := gm_t (List.mem_append_right _ (List.mem_append_left _ (List.mem_of_getElem? (i := 175) (rfl : tables_1_2[175]? = some _)))) rfl
theorem gm_363 : (.methodLink RL 101 yX2_restore : Cond) ∈ gG := gm_t (List.mem_append_right _ (List.mem_append_left _ (List.mem_of_getElem? (i := 176) (rfl : tables_1_2[176]? = some _)))) rfl
theorem gm_364 : (.instanceMethod yX2_restore : Cond) ∈ gG := gm_t (List.mem_append_right _ (List.mem_append_left _ (List.mem_of_getElem? (i := 177) (rfl : tables_1_2[177]? = some _)))) rfl
theorem gm_365 : (.selects RX2 yX2_restore yX2_restore : Cond) ∈ gG := gm_t (List.mem_append_right _ (List.mem_append_left _ (List.mem_of_getElem? (i := 178) (rfl : tables_1_2[178]? = some _)))) rfl
theorem gm_366 : (.code yX2_restore cX2_restore 1 (some .int) : Cond) ∈ gG := gm_t (List.mem_append_right _ (List.mem_append_left _ (List.mem_of_getElem? (i := 179) (rfl : tables_1_2[179]? = some _)))) rfl
theorem gm_367 : (.methodLink RL 105 yX2_count : Cond) ∈ gG := gm_t (List.mem_append_right _ (List.mem_append_left _ (List.mem_of_getElem? (i := 180) (rfl : tables_1_2[180]? = some _)))) rfl
theorem gm_368 : (.instanceMethod yX2_count : Cond) ∈ gG := gm_t (List.mem_append_right _ (List.mem_append_left _ (List.mem_of_getElem? (i := 181) (rfl : tables_1_2[181]? = some _)))) rfl
theorem gm_369 : (.selects RX2 yX2_count yX2_count : Cond) ∈ gG := gm_t (List.mem_append_right _ (List.mem_append_left _ (List.mem_of_getElem? (i := 182) (rfl : tables_1_2[182]? = some _)))) rfl
theorem gm_370 : (.code yX2_count cX2_count 2 (some .int) : Cond) ∈ gG := gm_t (List.mem_append_right _ (List.mem_append_left _ (List.mem_of_getElem? (i := 183) (rfl : tables_1_2[183]? = some _)))) rfl
theorem gm_371 : (.methodLink RX2 198 yX2_unlikeNumbers : Cond) ∈ gG := gm_t (List.mem_append_right _ (List.mem_append_left _ (List.mem_of_getElem? (i := 184) (rfl : tables_1_2[184]? = some _)))) rfl
theorem gm_372 : (.instanceMethod yX2_unlikeNumbers : Cond) ∈ gG := gm_t (List.mem_append_right _ (List.mem_append_left _ (List.mem_of_getElem? (i := 186) (rfl : tables_1_2[186]? = some _)))) rfl
theorem gm_373 : (.code yX2_unlikeNumbers cX2_unlikeNumbers 3 (some .int) : Cond) ∈ gG := gm_t (List.mem_append_right _ (List.mem_append_left _ (List.mem_of_getElem? (i := 187) (rfl : tables_1_2[187]? = some _)))) rfl
theorem gm_374 : (.methodLink RX2 201 yX2_owedByAll : Cond) ∈ gG := gm_t (List.mem_append_right _ (List.mem_append_left _ (List.mem_of_getElem? (i := 188) (rfl : tables_1_2[188]? = some _)))) rfl
theorem gm_375 : (.instanceMethod yX2_owedByAll : Cond) ∈ gG := gm_t (List.mem_append_right _ (List.mem_append_left _ (List.mem_of_getElem? (i := 190) (rfl : tables_1_2[190]? = some _)))) rfl
theorem gm_376 : (.code yX2_owedByAll cX2_owedByAll 3 (some .int) : Cond) ∈ gG := gm_t (List.mem_append_right _ (List.mem_append_left _ (List.mem_of_getElem? (i := 191) (rfl : tables_1_2[191]? = some _)))) rfl
theorem gm_377 : (.methodLink RL 109 yX2_digest : Cond) ∈ gG := gm_t (List.mem_append_right _ (List.mem_append_left _ (List.mem_of_getElem? (i := 192) (rfl : tables_1_2[192]? = some _)))) rfl
theorem gm_378 : (.instanceMethod yX2_digest : Cond) ∈ gG := gm_t (List.mem_append_right _ (List.mem_append_left _ (List.mem_of_getElem? (i := 193) (rfl : tables_1_2[193]? = some _)))) rfl
theorem gm_379 : (.selects RX2 yX2_digest yX2_digest : Cond) ∈ gG := gm_t (List.mem_append_right _ (List.mem_append_left _ (List.mem_of_getElem? (i := 194) (rfl : tables_1_2[194]? = some _)))) rfl
theorem gm_380 : (.code yX2_digest cX2_digest 4 (some .long) : Cond) ∈ gG := gm_t (List.mem_append_right _ (List.mem_append_left _ (List.mem_of_getElem? (i := 195) (rfl : tables_1_2[195]? = some _)))) rfl
theorem gm_381 : (.constantLong RX2 204 (1033 : Int64) : Cond) ∈ gG := gm_t (List.mem_append_right _ (List.mem_append_left _ (List.mem_of_getElem? (i := 196) (rfl : tables_1_2[196]? = some _)))) rfl
theorem gm_382 : (.methodLink RX2 206 yX2_withHouse : Cond) ∈ gG := gm_t (List.mem_append_right _ (List.mem_append_left _ (List.mem_of_getElem? (i := 197) (rfl : tables_1_2[197]? = some _)))) rfl
theorem gm_383 : (.instanceMethod yX2_withHouse : Cond) ∈ gG := gm_t (List.mem_append_right _ (List.mem_append_left _ (List.mem_of_getElem? (i := 199) (rfl : tables_1_2[199]? = some _)))) rfl
theorem gm_384 : (.code yX2_withHouse cX2_withHouse 7 (some .long) : Cond) ∈ gG := gm_t (List.mem_append_right _ (List.mem_append_left _ (List.mem_of_getElem? (i := 200) (rfl : tables_1_2[200]? = some _)))) rfl
theorem gm_385 : (.methodLink RX2 228 yX2_about : Cond) ∈ gG := gm_t (List.mem_append_right _ (List.mem_append_left _ (List.mem_of_getElem? (i := 201) (rfl : tables_1_2[201]? = some _)))) rfl
theorem gm_386 : (.methodLink RX2 213 yX2_with : Cond) ∈ gG := gm_t (List.mem_append_right _ (List.mem_append_left _ (List.mem_of_getElem? (i := 202) (rfl : tables_1_2[202]? = some _)))) rfl
theorem gm_387 : (.static yX2_with : Cond) ∈ gG := gm_t (List.mem_append_right _ (List.mem_append_left _ (List.mem_of_getElem? (i := 203) (rfl : tables_1_2[203]? = some _)))) rfl
theorem gm_388 : (.code yX2_with cX2_with 3 (some .long) : Cond) ∈ gG := gm_t (List.mem_append_right _ (List.mem_append_left _ (List.mem_of_getElem? (i := 204) (rfl : tables_1_2[204]? = some _)))) rfl
theorem gm_389 : (.constantLong RX2 231 (31 : Int64) : Cond) ∈ gG := gm_t (List.mem_append_right _ (List.mem_append_left _ (List.mem_of_getElem? (i := 205) (rfl : tables_1_2[205]? = some _)))) rfl
theorem gm_390 : (.methodLink RX2 210 yX2_walk : Cond) ∈ gG := gm_t (List.mem_append_right _ (List.mem_append_left _ (List.mem_of_getElem? (i := 206) (rfl : tables_1_2[206]? = some _)))) rfl
theorem gm_391 : (.methodLink RX2 216 yX2_cheap : Cond) ∈ gG := gm_t (List.mem_append_right _ (List.mem_append_left _ (List.mem_of_getElem? (i := 207) (rfl : tables_1_2[207]? = some _)))) rfl
theorem gm_392 : (.methodLink RX2 219 yX2_days : Cond) ∈ gG := gm_t (List.mem_append_right _ (List.mem_append_left _ (List.mem_of_getElem? (i := 208) (rfl : tables_1_2[208]? = some _)))) rfl
theorem gm_393 : (.methodLink RX2 222 yX2_ask : Cond) ∈ gG := gm_t (List.mem_append_right _ (List.mem_append_left _ (List.mem_of_getElem? (i := 209) (rfl : tables_1_2[209]? = some _)))) rfl
theorem gm_394 : (.methodLink RX2 225 yX2_count : Cond) ∈ gG := gm_t (List.mem_append_right _ (List.mem_append_left _ (List.mem_of_getElem? (i := 210) (rfl : tables_1_2[210]? = some _)))) rfl
theorem gm_395 : (.classLink RL 10 RX3 : Cond) ∈ gG := gm_t (List.mem_append_right _ (List.mem_append_left _ (List.mem_of_getElem? (i := 211) (rfl : tables_1_2[211]? = some _)))) rfl
theorem gm_396 : (.instantiable RX3 32 : Cond) ∈ gG := gm_t (List.mem_append_right _ (List.mem_append_left _ (List.mem_of_getElem? (i := 212) (rfl : tables_1_2[212]? = some _)))) rfl
theorem gm_397 : (.methodLink RL 12 yX3_init : Cond) ∈ gG := gm_t (List.mem_append_right _ (List.mem_append_left _ (List.mem_of_getElem? (i := 213) (rfl : tables_1_2[213]? = some _)))) rfl
theorem gm_398 : (.instanceMethod yX3_init : Cond) ∈ gG := gm_t (List.mem_append_right _ (List.mem_append_left _ (List.mem_of_getElem? (i := 214) (rfl : tables_1_2[214]? = some _)))) rfl
theorem gm_399 : (.code yX3_init cX3_init 1 none : Cond) ∈ gG := gm_t (List.mem_append_right _ (List.mem_append_left _ (List.mem_of_getElem? (i := 215) (rfl : tables_1_2[215]? = some _)))) rfl
theorem gm_400 : (.methodLink RX3 1 objectInit : Cond) ∈ gG := gm_t (List.mem_append_right _ (List.mem_append_left _ (List.mem_of_getElem? (i := 216) (rfl : tables_1_2[216]? = some _)))) rfl
theorem gm_401 : (.fieldLink RX3 85 "BirthStreetModel" "streets" "I" : Cond) ∈ gG := gm_t (List.mem_append_right _ (List.mem_append_left _ (List.mem_of_getElem? (i := 217) (rfl : tables_1_2[217]? = some _)))) rfl
theorem gm_402 : (.fieldLink RX3 82 "BirthStreetModel" "houses" "I" : Cond) ∈ gG := gm_t (List.mem_append_right _ (List.mem_append_left _ (List.mem_of_getElem? (i := 218) (rfl : tables_1_2[218]? = some _)))) rfl
theorem gm_403 : (.fieldLink RX3 7 "BirthStreetModel" "kindOf" "[I" : Cond) ∈ gG := gm_t (List.mem_append_right _ (List.mem_append_left _ (List.mem_of_getElem? (i := 219) (rfl : tables_1_2[219]? = some _)))) rfl
theorem gm_404 : (.fieldLink RX3 13 "BirthStreetModel" "ageOf" "[I" : Cond) ∈ gG := gm_t (List.mem_append_right _ (List.mem_append_left _ (List.mem_of_getElem? (i := 220) (rfl : tables_1_2[220]? = some _)))) rfl
theorem gm_405 : (.fieldLink RX3 16 "BirthStreetModel" "birthsOf" "[I" : Cond) ∈ gG := gm_t (List.mem_append_right _ (List.mem_append_left _ (List.mem_of_getElem? (i := 221) (rfl : tables_1_2[221]? = some _)))) rfl
theorem gm_406 : (.fieldLink RX3 19 "BirthStreetModel" "ageThen" "[I" : Cond) ∈ gG := gm_t (List.mem_append_right _ (List.mem_append_left _ (List.mem_of_getElem? (i := 222) (rfl : tables_1_2[222]? = some _)))) rfl
theorem gm_407 : (.fieldLink RX3 88 "BirthStreetModel" "today" "I" : Cond) ∈ gG := gm_t (List.mem_append_right _ (List.mem_append_left _ (List.mem_of_getElem? (i := 223) (rfl : tables_1_2[223]? = some _)))) rfl
theorem gm_408 : (.fieldLink RX3 91 "BirthStreetModel" "births" "I" : Cond) ∈ gG := gm_t (List.mem_append_right _ (List.mem_append_left _ (List.mem_of_getElem? (i := 224) (rfl : tables_1_2[224]? = some _)))) rfl
theorem gm_409 : (.fieldLink RX3 94 "BirthStreetModel" "debts" "I" : Cond) ∈ gG := gm_t (List.mem_append_right _ (List.mem_append_left _ (List.mem_of_getElem? (i := 225) (rfl : tables_1_2[225]? = some _)))) rfl
theorem gm_410 : (.fieldLink RX3 22 "BirthStreetModel" "debtMuch" "[I" : Cond) ∈ gG := gm_t (List.mem_append_right _ (List.mem_append_left _ (List.mem_of_getElem? (i := 226) (rfl : tables_1_2[226]? = some _)))) rfl
theorem gm_411 : (.fieldLink RX3 25 "BirthStreetModel" "debtNumber" "[I" : Cond) ∈ gG := gm_t (List.mem_append_right _ (List.mem_append_left _ (List.mem_of_getElem? (i := 227) (rfl : tables_1_2[227]? = some _)))) rfl
theorem gm_412 : (.fieldLink RX3 97 "BirthStreetModel" "heard" "I" : Cond) ∈ gG := gm_t (List.mem_append_right _ (List.mem_append_left _ (List.mem_of_getElem? (i := 228) (rfl : tables_1_2[228]? = some _)))) rfl
theorem gm_413 : (.fieldLink RX3 28 "BirthStreetModel" "heardHouse" "[I" : Cond) ∈ gG := gm_t (List.mem_append_right _ (List.mem_append_left _ (List.mem_of_getElem? (i := 229) (rfl : tables_1_2[229]? = some _)))) rfl
theorem gm_414 : (.fieldLink RX3 31 "BirthStreetModel" "heardNumber" "[I" : Cond) ∈ gG := gm_t (List.mem_append_right _ (List.mem_append_left _ (List.mem_of_getElem? (i := 230) (rfl : tables_1_2[230]? = some _)))) rfl
theorem gm_415 : (.fieldLink RX3 66 "BirthStreetModel" "pageLength" "I" : Cond) ∈ gG := gm_t (List.mem_append_right _ (List.mem_append_left _ (List.mem_of_getElem? (i := 231) (rfl : tables_1_2[231]? = some _)))) rfl
theorem gm_416 : (.fieldLink RX3 34 "BirthStreetModel" "page" "[B" : Cond) ∈ gG := gm_t (List.mem_append_right _ (List.mem_append_left _ (List.mem_of_getElem? (i := 232) (rfl : tables_1_2[232]? = some _)))) rfl
theorem gm_417 : (.fieldLink RX3 38 "BirthStreetModel" "savedAge" "[I" : Cond) ∈ gG := gm_t (List.mem_append_right _ (List.mem_append_left _ (List.mem_of_getElem? (i := 233) (rfl : tables_1_2[233]? = some _)))) rfl
theorem gm_418 : (.fieldLink RX3 184 "BirthStreetModel" "seedNow" "J" : Cond) ∈ gG := gm_t (List.mem_append_right _ (List.mem_append_left _ (List.mem_of_getElem? (i := 234) (rfl : tables_1_2[234]? = some _)))) rfl
theorem gm_419 : (.fieldLink RX3 201 "BirthStreetModel" "isKept" "Z" : Cond) ∈ gG := gm_t (List.mem_append_right _ (List.mem_append_left _ (List.mem_of_getElem? (i := 235) (rfl : tables_1_2[235]? = some _)))) rfl
theorem gm_420 : (.fieldLink RX3 205 "BirthStreetModel" "keptStreet" "I" : Cond) ∈ gG := gm_t (List.mem_append_right _ (List.mem_append_left _ (List.mem_of_getElem? (i := 236) (rfl : tables_1_2[236]? = some _)))) rfl
theorem gm_421 : (.fieldLink RX3 208 "BirthStreetModel" "keptToday" "I" : Cond) ∈ gG := gm_t (List.mem_append_right _ (List.mem_append_left _ (List.mem_of_getElem? (i := 237) (rfl : tables_1_2[237]? = some _)))) rfl
theorem gm_422 : (.fieldLink RX3 211 "BirthStreetModel" "keptBirths" "I" : Cond) ∈ gG := gm_t (List.mem_append_right _ (List.mem_append_left _ (List.mem_of_getElem? (i := 238) (rfl : tables_1_2[238]? = some _)))) rfl
theorem gm_423 : (.fieldLink RX3 214 "BirthStreetModel" "keptDebts" "I" : Cond) ∈ gG := gm_t (List.mem_append_right _ (List.mem_append_left _ (List.mem_of_getElem? (i := 239) (rfl : tables_1_2[239]? = some _)))) rfl
theorem gm_424 : (.fieldLink RX3 217 "BirthStreetModel" "keptHeard" "I" : Cond) ∈ gG := gm_t (List.mem_append_right _ (List.mem_append_right _ (List.mem_append_left _ (List.mem_of_getElem? (i := 0) (rfl : tables_1_3[0]? = some _))))) rfl
theorem gm_425 : (.fieldLink RX3 41 "BirthStreetModel" "keptAge" "[I" : Cond) ∈ gG := gm_t (List.mem_append_right _ (List.mem_append_right _ (List.mem_append_left _ (List.mem_of_getElem? (i := 1) (rfl : tables_1_3[1]? = some _))))) rfl
theorem gm_426 : (.fieldLink RX3 44 "BirthStreetModel" "keptBirthsOf" "[I" : Cond) ∈ gG := gm_t (List.mem_append_right _ (List.mem_append_right _ (List.mem_append_left _ (List.mem_of_getElem? (i := 2) (rfl : tables_1_3[2]? = some _))))) rfl
theorem gm_427 : (.fieldLink RX3 47 "BirthStreetModel" "keptThen" "[I" : Cond) ∈ gG := gm_t (List.mem_append_right _ (List.mem_append_right _ (List.mem_append_left _ (List.mem_of_getElem? (i := 3) (rfl : tables_1_3[3]? = some _))))) rfl
theorem gm_428 : (.fieldLink RX3 50 "BirthStreetModel" "keptMuch" "[I" : Cond) ∈ gG := gm_t (List.mem_append_right _ (List.mem_append_right _ (List.mem_append_left _ (List.mem_of_getElem? (i := 4) (rfl : tables_1_3[4]? = some _))))) rfl
theorem gm_429 : (.fieldLink RX3 53 "BirthStreetModel" "keptNumber" "[I" : Cond) ∈ gG := gm_t (List.mem_append_right _ (List.mem_append_right _ (List.mem_append_left _ (List.mem_of_getElem? (i := 5) (rfl : tables_1_3[5]? = some _))))) rfl
theorem gm_430 : (.fieldLink RX3 56 "BirthStreetModel" "keptHouse" "[I" : Cond) ∈ gG := gm_t (List.mem_append_right _ (List.mem_append_right _ (List.mem_append_left _ (List.mem_of_getElem? (i := 6) (rfl : tables_1_3[6]? = some _))))) rfl
theorem gm_431 : (.fieldLink RX3 59 "BirthStreetModel" "keptHeardNumber" "[I" : Cond) ∈ gG := gm_t (List.mem_append_right _ (List.mem_append_right _ (List.mem_append_left _ (List.mem_of_getElem? (i := 7) (rfl : tables_1_3[7]? = some _))))) rfl
theorem gm_432 : (.fieldLink RX3 231 "BirthStreetModel" "h" "J" : Cond) ∈ gG := gm_t (List.mem_append_right _ (List.mem_append_right _ (List.mem_append_left _ (List.mem_of_getElem? (i := 8) (rfl : tables_1_3[8]? = some _))))) rfl
theorem gm_433 : (.lays RX3 "BirthStreetModel" "streets" "I" : Cond) ∈ gG := gm_t (List.mem_append_right _ (List.mem_append_right _ (List.mem_append_left _ (List.mem_of_getElem? (i := 9) (rfl : tables_1_3[9]? = some _))))) rfl
theorem gm_434 : (.lays RX3 "BirthStreetModel" "houses" "I" : Cond) ∈ gG := gm_t (List.mem_append_right _ (List.mem_append_right _ (List.mem_append_left _ (List.mem_of_getElem? (i := 11) (rfl : tables_1_3[11]? = some _))))) rfl
theorem gm_435 : (.laysFinal RX3 "BirthStreetModel" "kindOf" "[I" : Cond) ∈ gG := gm_t (List.mem_append_right _ (List.mem_append_right _ (List.mem_append_left _ (List.mem_of_getElem? (i := 13) (rfl : tables_1_3[13]? = some _))))) rfl
theorem gm_436 : (.laysFinal RX3 "BirthStreetModel" "ageOf" "[I" : Cond) ∈ gG := gm_t (List.mem_append_right _ (List.mem_append_right _ (List.mem_append_left _ (List.mem_of_getElem? (i := 15) (rfl : tables_1_3[15]? = some _))))) rfl
theorem gm_437 : (.laysFinal RX3 "BirthStreetModel" "birthsOf" "[I" : Cond) ∈ gG := gm_t (List.mem_append_right _ (List.mem_append_right _ (List.mem_append_left _ (List.mem_of_getElem? (i := 17) (rfl : tables_1_3[17]? = some _))))) rfl
theorem gm_438 : (.laysFinal RX3 "BirthStreetModel" "ageThen" "[I" : Cond) ∈ gG := gm_t (List.mem_append_right _ (List.mem_append_right _ (List.mem_append_left _ (List.mem_of_getElem? (i := 19) (rfl : tables_1_3[19]? = some _))))) rfl
theorem gm_439 : (.lays RX3 "BirthStreetModel" "today" "I" : Cond) ∈ gG := gm_t (List.mem_append_right _ (List.mem_append_right _ (List.mem_append_left _ (List.mem_of_getElem? (i := 21) (rfl : tables_1_3[21]? = some _))))) rfl
theorem gm_440 : (.lays RX3 "BirthStreetModel" "births" "I" : Cond) ∈ gG := gm_t (List.mem_append_right _ (List.mem_append_right _ (List.mem_append_left _ (List.mem_of_getElem? (i := 23) (rfl : tables_1_3[23]? = some _))))) rfl
theorem gm_441 : (.lays RX3 "BirthStreetModel" "debts" "I" : Cond) ∈ gG := gm_t (List.mem_append_right _ (List.mem_append_right _ (List.mem_append_left _ (List.mem_of_getElem? (i := 25) (rfl : tables_1_3[25]? = some _))))) rfl
theorem gm_442 : (.laysFinal RX3 "BirthStreetModel" "debtMuch" "[I" : Cond) ∈ gG := gm_t (List.mem_append_right _ (List.mem_append_right _ (List.mem_append_left _ (List.mem_of_getElem? (i := 27) (rfl : tables_1_3[27]? = some _))))) rfl
theorem gm_443 : (.laysFinal RX3 "BirthStreetModel" "debtNumber" "[I" : Cond) ∈ gG := gm_t (List.mem_append_right _ (List.mem_append_right _ (List.mem_append_left _ (List.mem_of_getElem? (i := 29) (rfl : tables_1_3[29]? = some _))))) rfl
theorem gm_444 : (.lays RX3 "BirthStreetModel" "heard" "I" : Cond) ∈ gG := gm_t (List.mem_append_right _ (List.mem_append_right _ (List.mem_append_left _ (List.mem_of_getElem? (i := 31) (rfl : tables_1_3[31]? = some _))))) rfl
theorem gm_445 : (.laysFinal RX3 "BirthStreetModel" "heardHouse" "[I" : Cond) ∈ gG := gm_t (List.mem_append_right _ (List.mem_append_right _ (List.mem_append_left _ (List.mem_of_getElem? (i := 33) (rfl : tables_1_3[33]? = some _))))) rfl
theorem gm_446 : (.laysFinal RX3 "BirthStreetModel" "heardNumber" "[I" : Cond) ∈ gG := gm_t (List.mem_append_right _ (List.mem_append_right _ (List.mem_append_left _ (List.mem_of_getElem? (i := 35) (rfl : tables_1_3[35]? = some _))))) rfl
theorem gm_447 : (.lays RX3 "BirthStreetModel" "pageLength" "I" : Cond) ∈ gG := gm_t (List.mem_append_right _ (List.mem_append_right _ (List.mem_append_left _ (List.mem_of_getElem? (i := 37) (rfl : tables_1_3[37]? = some _))))) rfl
theorem gm_448 : (.laysFinal RX3 "BirthStreetModel" "page" "[B" : Cond) ∈ gG := gm_t (List.mem_append_right _ (List.mem_append_right _ (List.mem_append_left _ (List.mem_of_getElem? (i := 39) (rfl : tables_1_3[39]? = some _))))) rfl
theorem gm_449 : (.laysFinal RX3 "BirthStreetModel" "savedAge" "[I" : Cond) ∈ gG := gm_t (List.mem_append_right _ (List.mem_append_right _ (List.mem_append_left _ (List.mem_of_getElem? (i := 41) (rfl : tables_1_3[41]? = some _))))) rfl
theorem gm_450 : (.lays RX3 "BirthStreetModel" "seedNow" "J" : Cond) ∈ gG := gm_t (List.mem_append_right _ (List.mem_append_right _ (List.mem_append_left _ (List.mem_of_getElem? (i := 43) (rfl : tables_1_3[43]? = some _))))) rfl
theorem gm_451 : (.lays RX3 "BirthStreetModel" "isKept" "Z" : Cond) ∈ gG := gm_t (List.mem_append_right _ (List.mem_append_right _ (List.mem_append_left _ (List.mem_of_getElem? (i := 45) (rfl : tables_1_3[45]? = some _))))) rfl
theorem gm_452 : (.lays RX3 "BirthStreetModel" "keptStreet" "I" : Cond) ∈ gG := gm_t (List.mem_append_right _ (List.mem_append_right _ (List.mem_append_left _ (List.mem_of_getElem? (i := 47) (rfl : tables_1_3[47]? = some _))))) rfl
theorem gm_453 : (.lays RX3 "BirthStreetModel" "keptToday" "I" : Cond) ∈ gG := gm_t (List.mem_append_right _ (List.mem_append_right _ (List.mem_append_left _ (List.mem_of_getElem? (i := 49) (rfl : tables_1_3[49]? = some _))))) rfl
theorem gm_454 : (.lays RX3 "BirthStreetModel" "keptBirths" "I" : Cond) ∈ gG := gm_t (List.mem_append_right _ (List.mem_append_right _ (List.mem_append_left _ (List.mem_of_getElem? (i := 51) (rfl : tables_1_3[51]? = some _))))) rfl
theorem gm_455 : (.lays RX3 "BirthStreetModel" "keptDebts" "I" : Cond) ∈ gG := gm_t (List.mem_append_right _ (List.mem_append_right _ (List.mem_append_left _ (List.mem_of_getElem? (i := 53) (rfl : tables_1_3[53]? = some _))))) rfl
theorem gm_456 : (.lays RX3 "BirthStreetModel" "keptHeard" "I" : Cond) ∈ gG := gm_t (List.mem_append_right _ (List.mem_append_right _ (List.mem_append_left _ (List.mem_of_getElem? (i := 55) (rfl : tables_1_3[55]? = some _))))) rfl
theorem gm_457 : (.laysFinal RX3 "BirthStreetModel" "keptAge" "[I" : Cond) ∈ gG := gm_t (List.mem_append_right _ (List.mem_append_right _ (List.mem_append_left _ (List.mem_of_getElem? (i := 57) (rfl : tables_1_3[57]? = some _))))) rfl
theorem gm_458 : (.laysFinal RX3 "BirthStreetModel" "keptBirthsOf" "[I" : Cond) ∈ gG := gm_t (List.mem_append_right _ (List.mem_append_right _ (List.mem_append_left _ (List.mem_of_getElem? (i := 59) (rfl : tables_1_3[59]? = some _))))) rfl
theorem gm_459 : (.laysFinal RX3 "BirthStreetModel" "keptThen" "[I" : Cond) ∈ gG := gm_t (List.mem_append_right _ (List.mem_append_right _ (List.mem_append_left _ (List.mem_of_getElem? (i := 61) (rfl : tables_1_3[61]? = some _))))) rfl
theorem gm_460 : (.laysFinal RX3 "BirthStreetModel" "keptMuch" "[I" : Cond) ∈ gG := gm_t (List.mem_append_right _ (List.mem_append_right _ (List.mem_append_left _ (List.mem_of_getElem? (i := 63) (rfl : tables_1_3[63]? = some _))))) rfl
theorem gm_461 : (.laysFinal RX3 "BirthStreetModel" "keptNumber" "[I" : Cond) ∈ gG := gm_t (List.mem_append_right _ (List.mem_append_right _ (List.mem_append_left _ (List.mem_of_getElem? (i := 65) (rfl : tables_1_3[65]? = some _))))) rfl
theorem gm_462 : (.laysFinal RX3 "BirthStreetModel" "keptHouse" "[I" : Cond) ∈ gG := gm_t (List.mem_append_right _ (List.mem_append_right _ (List.mem_append_left _ (List.mem_of_getElem? (i := 67) (rfl : tables_1_3[67]? = some _))))) rfl
theorem gm_463 : (.laysFinal RX3 "BirthStreetModel" "keptHeardNumber" "[I" : Cond) ∈ gG := gm_t (List.mem_append_right _ (List.mem_append_right _ (List.mem_append_left _ (List.mem_of_getElem? (i := 69) (rfl : tables_1_3[69]? = some _))))) rfl
theorem gm_464 : (.lays RX3 "BirthStreetModel" "h" "J" : Cond) ∈ gG := gm_t (List.mem_append_right _ (List.mem_append_right _ (List.mem_append_left _ (List.mem_of_getElem? (i := 71) (rfl : tables_1_3[71]? = some _))))) rfl
theorem gm_465 : (.methodLink RL 17 yX3_letter : Cond) ∈ gG := gm_t (List.mem_append_right _ (List.mem_append_right _ (List.mem_append_left _ (List.mem_of_getElem? (i := 74) (rfl : tables_1_3[74]? = some _))))) rfl
theorem gm_466 : (.instanceMethod yX3_letter : Cond) ∈ gG := gm_t (List.mem_append_right _ (List.mem_append_right _ (List.mem_append_left _ (List.mem_of_getElem? (i := 75) (rfl : tables_1_3[75]? = some _))))) rfl
theorem gm_467 : (.selects RX3 yX3_letter yX3_letter : Cond) ∈ gG := gm_t (List.mem_append_right _ (List.mem_append_right _ (List.mem_append_left _ (List.mem_of_getElem? (i := 76) (rfl : tables_1_3[76]? = some _))))) rfl
theorem gm_468 : (.code yX3_letter cX3_letter 2 (some .int) : Cond) ∈ gG := gm_t (List.mem_append_right _ (List.mem_append_right _ (List.mem_append_left _ (List.mem_of_getElem? (i := 77) (rfl : tables_1_3[77]? = some _))))) rfl
theorem gm_469 : (.methodLink RX3 62 yX3_within : Cond) ∈ gG := gm_t (List.mem_append_right _ (List.mem_append_right _ (List.mem_append_left _ (List.mem_of_getElem? (i := 78) (rfl : tables_1_3[78]? = some _))))) rfl
theorem gm_470 : (.static yX3_within : Cond) ∈ gG := gm_t (List.mem_append_right _ (List.mem_append_right _ (List.mem_append_left _ (List.mem_of_getElem? (i := 79) (rfl : tables_1_3[79]? = some _))))) rfl
theorem gm_471 : (.code yX3_within cX3_within 3 (some .boolean) : Cond) ∈ gG := gm_t (List.mem_append_right _ (List.mem_append_right _ (List.mem_append_left _ (List.mem_of_getElem? (i := 80) (rfl : tables_1_3[80]? = some _))))) rfl
theorem gm_472 : (.methodLink RL 22 yX3_blank : Cond) ∈ gG := gm_t (List.mem_append_right _ (List.mem_append_right _ (List.mem_append_left _ (List.mem_of_getElem? (i := 81) (rfl : tables_1_3[81]? = some _))))) rfl
theorem gm_473 : (.instanceMethod yX3_blank : Cond) ∈ gG := gm_t (List.mem_append_right _ (List.mem_append_right _ (List.mem_append_left _ (List.mem_of_getElem? (i := 82) (rfl : tables_1_3[82]? = some _))))) rfl
theorem gm_474 : (.selects RX3 yX3_blank yX3_blank : Cond) ∈ gG := gm_t (List.mem_append_right _ (List.mem_append_right _ (List.mem_append_left _ (List.mem_of_getElem? (i := 83) (rfl : tables_1_3[83]? = some _))))) rfl
theorem gm_475 : (.code yX3_blank cX3_blank 2 (some .int) : Cond) ∈ gG := gm_t (List.mem_append_right _ (List.mem_append_right _ (List.mem_append_left _ (List.mem_of_getElem? (i := 84) (rfl : tables_1_3[84]? = some _))))) rfl
theorem gm_476 : (.methodLink RL 26 yX3_fault : Cond) ∈ gG := gm_t (List.mem_append_right _ (List.mem_append_right _ (List.mem_append_left _ (List.mem_of_getElem? (i := 85) (rfl : tables_1_3[85]? = some _))))) rfl
theorem gm_477 : (.instanceMethod yX3_fault : Cond) ∈ gG := gm_t (List.mem_append_right _ (List.mem_append_right _ (List.mem_append_left _ (List.mem_of_getElem? (i := 86) (rfl : tables_1_3[86]? = some _))))) rfl
theorem gm_478 : (.selects RX3 yX3_fault yX3_fault : Cond) ∈ gG := gm_t (List.mem_append_right _ (List.mem_append_right _ (List.mem_append_left _ (List.mem_of_getElem? (i := 87) (rfl : tables_1_3[87]? = some _))))) rfl
theorem gm_479 : (.code yX3_fault cX3_fault 1 (some .int) : Cond) ∈ gG := gm_t (List.mem_append_right _ (List.mem_append_right _ (List.mem_append_left _ (List.mem_of_getElem? (i := 88) (rfl : tables_1_3[88]? = some _))))) rfl
theorem gm_480 : (.methodLink RX3 78 yX3_faultNow : Cond) ∈ gG := gm_t (List.mem_append_right _ (List.mem_append_right _ (List.mem_append_left _ (List.mem_of_getElem? (i := 89) (rfl : tables_1_3[89]? = some _))))) rfl
theorem gm_481 : (.instanceMethod yX3_faultNow : Cond) ∈ gG := gm_t (List.mem_append_right _ (List.mem_append_right _ (List.mem_append_left _ (List.mem_of_getElem? (i := 91) (rfl : tables_1_3[91]? = some _))))) rfl
theorem gm_482 : (.code yX3_faultNow cX3_faultNow 2 (some .int) : Cond) ∈ gG := gm_t (List.mem_append_right _ (List.mem_append_right _ (List.mem_append_left _ (List.mem_of_getElem? (i := 92) (rfl : tables_1_3[92]? = some _))))) rfl
theorem gm_483 : (.methodLink RX3 74 yX3_isGood : Cond) ∈ gG := gm_t (List.mem_append_right _ (List.mem_append_right _ (List.mem_append_left _ (List.mem_of_getElem? (i := 93) (rfl : tables_1_3[93]? = some _))))) rfl
theorem gm_484 : (.instanceMethod yX3_isGood : Cond) ∈ gG := gm_t (List.mem_append_right _ (List.mem_append_right _ (List.mem_append_left _ (List.mem_of_getElem? (i := 95) (rfl : tables_1_3[95]? = some _))))) rfl
theorem gm_485 : (.code yX3_isGood cX3_isGood 3 (some .boolean) : Cond) ∈ gG := gm_t (List.mem_append_right _ (List.mem_append_right _ (List.mem_append_left _ (List.mem_of_getElem? (i := 96) (rfl : tables_1_3[96]? = some _))))) rfl
theorem gm_486 : (.methodLink RX3 70 yX3_kindBy : Cond) ∈ gG := gm_t (List.mem_append_right _ (List.mem_append_right _ (List.mem_append_left _ (List.mem_of_getElem? (i := 97) (rfl : tables_1_3[97]? = some _))))) rfl
theorem gm_487 : (.static yX3_kindBy : Cond) ∈ gG := gm_t (List.mem_append_right _ (List.mem_append_right _ (List.mem_append_left _ (List.mem_of_getElem? (i := 98) (rfl : tables_1_3[98]? = some _))))) rfl
theorem gm_488 : (.code yX3_kindBy cX3_kindBy 1 (some .int) : Cond) ∈ gG := gm_t (List.mem_append_right _ (List.mem_append_right _ (List.mem_append_left _ (List.mem_of_getElem? (i := 99) (rfl : tables_1_3[99]? = some _))))) rfl
theorem gm_489 : (.methodLink RL 30 yX3_street : Cond) ∈ gG := gm_t (List.mem_append_right _ (List.mem_append_right _ (List.mem_append_left _ (List.mem_of_getElem? (i := 100) (rfl : tables_1_3[100]? = some _))))) rfl
theorem gm_490 : (.instanceMethod yX3_street : Cond) ∈ gG := gm_t (List.mem_append_right _ (List.mem_append_right _ (List.mem_append_left _ (List.mem_of_getElem? (i := 101) (rfl : tables_1_3[101]? = some _))))) rfl
theorem gm_491 : (.selects RX3 yX3_street yX3_street : Cond) ∈ gG := gm_t (List.mem_append_right _ (List.mem_append_right _ (List.mem_append_left _ (List.mem_of_getElem? (i := 102) (rfl : tables_1_3[102]? = some _))))) rfl
theorem gm_492 : (.code yX3_street cX3_street 2 (some .int) : Cond) ∈ gG := gm_t (List.mem_append_right _ (List.mem_append_right _ (List.mem_append_left _ (List.mem_of_getElem? (i := 103) (rfl : tables_1_3[103]? = some _))))) rfl
theorem gm_493 : (.methodLink RL 35 yX3_about : Cond) ∈ gG := gm_t (List.mem_append_right _ (List.mem_append_right _ (List.mem_append_left _ (List.mem_of_getElem? (i := 104) (rfl : tables_1_3[104]? = some _))))) rfl
theorem gm_494 : (.instanceMethod yX3_about : Cond) ∈ gG := gm_t (List.mem_append_right _ (List.mem_append_right _ (List.mem_append_left _ (List.mem_of_getElem? (i := 105) (rfl : tables_1_3[105]? = some _))))) rfl
theorem gm_495 : (.selects RX3 yX3_about yX3_about : Cond) ∈ gG := gm_t (List.mem_append_right _ (List.mem_append_right _ (List.mem_append_left _ (List.mem_of_getElem? (i := 106) (rfl : tables_1_3[106]? = some _))))) rfl
theorem gm_496 : (.code yX3_about cX3_about 3 (some .int) : Cond) ∈ gG := gm_t (List.mem_append_right _ (List.mem_append_right _ (List.mem_append_left _ (List.mem_of_getElem? (i := 107) (rfl : tables_1_3[107]? = some _))))) rfl
theorem gm_497 : (.methodLink RX3 122 yX3_isHouse : Cond) ∈ gG := gm_t (List.mem_append_right _ (List.mem_append_right _ (List.mem_append_left _ (List.mem_of_getElem? (i := 108) (rfl : tables_1_3[108]? = some _))))) rfl
theorem gm_498 : (.instanceMethod yX3_isHouse : Cond) ∈ gG := gm_t (List.mem_append_right _ (List.mem_append_right _ (List.mem_append_left _ (List.mem_of_getElem? (i := 110) (rfl : tables_1_3[110]? = some _))))) rfl
theorem gm_499 : (.code yX3_isHouse cX3_isHouse 2 (some .boolean) : Cond) ∈ gG := gm_t (List.mem_append_right _ (List.mem_append_right _ (List.mem_append_left _ (List.mem_of_getElem? (i := 111) (rfl : tables_1_3[111]? = some _))))) rfl
theorem gm_500 : (.methodLink RX3 125 yX3_houseNow : Cond) ∈ gG := gm_t (List.mem_append_right _ (List.mem_append_right _ (List.mem_append_left _ (List.mem_of_getElem? (i := 112) (rfl : tables_1_3[112]? = some _))))) rfl
theorem gm_501 : (.instanceMethod yX3_houseNow : Cond) ∈ gG := gm_t (List.mem_append_right _ (List.mem_append_right _ (List.mem_append_left _ (List.mem_of_getElem? (i := 114) (rfl : tables_1_3[114]? = some _))))) rfl
theorem gm_502 : (.code yX3_houseNow cX3_houseNow 3 (some .int) : Cond) ∈ gG := gm_t (List.mem_append_right _ (List.mem_append_right _ (List.mem_append_left _ (List.mem_of_getElem? (i := 115) (rfl : tables_1_3[115]? = some _))))) rfl
theorem gm_503 : (.methodLink RX3 107 yX3_number : Cond) ∈ gG := gm_t (List.mem_append_right _ (List.mem_append_right _ (List.mem_append_left _ (List.mem_of_getElem? (i := 116) (rfl : tables_1_3[116]? = some _))))) rfl
theorem gm_504 : (.instanceMethod yX3_number : Cond) ∈ gG := gm_t (List.mem_append_right _ (List.mem_append_right _ (List.mem_append_left _ (List.mem_of_getElem? (i := 118) (rfl : tables_1_3[118]? = some _))))) rfl
theorem gm_505 : (.code yX3_number cX3_number 2 (some .int) : Cond) ∈ gG := gm_t (List.mem_append_right _ (List.mem_append_right _ (List.mem_append_left _ (List.mem_of_getElem? (i := 119) (rfl : tables_1_3[119]? = some _))))) rfl
theorem gm_506 : (.methodLink RX3 100 yX3_numberBy : Cond) ∈ gG := gm_t (List.mem_append_right _ (List.mem_append_right _ (List.mem_append_left _ (List.mem_of_getElem? (i := 120) (rfl : tables_1_3[120]? = some _))))) rfl
theorem gm_507 : (.instanceMethod yX3_numberBy : Cond) ∈ gG := gm_t (List.mem_append_right _ (List.mem_append_right _ (List.mem_append_left _ (List.mem_of_getElem? (i := 122) (rfl : tables_1_3[122]? = some _))))) rfl
theorem gm_508 : (.code yX3_numberBy cX3_numberBy 3 (some .int) : Cond) ∈ gG := gm_t (List.mem_append_right _ (List.mem_append_right _ (List.mem_append_left _ (List.mem_of_getElem? (i := 123) (rfl : tables_1_3[123]? = some _))))) rfl
theorem gm_509 : (.methodLink RX3 119 yX3_owes : Cond) ∈ gG := gm_t (List.mem_append_right _ (List.mem_append_right _ (List.mem_append_left _ (List.mem_of_getElem? (i := 124) (rfl : tables_1_3[124]? = some _))))) rfl
theorem gm_510 : (.instanceMethod yX3_owes : Cond) ∈ gG := gm_t (List.mem_append_right _ (List.mem_append_right _ (List.mem_append_left _ (List.mem_of_getElem? (i := 126) (rfl : tables_1_3[126]? = some _))))) rfl
theorem gm_511 : (.code yX3_owes cX3_owes 4 (some .int) : Cond) ∈ gG := gm_t (List.mem_append_right _ (List.mem_append_right _ (List.mem_append_left _ (List.mem_of_getElem? (i := 127) (rfl : tables_1_3[127]? = some _))))) rfl
theorem gm_512 : (.methodLink RX3 116 yX3_houseOf : Cond) ∈ gG := gm_t (List.mem_append_right _ (List.mem_append_right _ (List.mem_append_left _ (List.mem_of_getElem? (i := 128) (rfl : tables_1_3[128]? = some _))))) rfl
theorem gm_513 : (.instanceMethod yX3_houseOf : Cond) ∈ gG := gm_t (List.mem_append_right _ (List.mem_append_right _ (List.mem_append_left _ (List.mem_of_getElem? (i := 130) (rfl : tables_1_3[130]? = some _))))) rfl
theorem gm_514 : (.code yX3_houseOf cX3_houseOf 5 (some .int) : Cond) ∈ gG := gm_t (List.mem_append_right _ (List.mem_append_right _ (List.mem_append_left _ (List.mem_of_getElem? (i := 131) (rfl : tables_1_3[131]? = some _))))) rfl
theorem gm_515 : (.methodLink RX3 113 yX3_numberOn : Cond) ∈ gG := gm_t (List.mem_append_right _ (List.mem_append_right _ (List.mem_append_left _ (List.mem_of_getElem? (i := 132) (rfl : tables_1_3[132]? = some _))))) rfl
theorem gm_516 : (.instanceMethod yX3_numberOn : Cond) ∈ gG := gm_t (List.mem_append_right _ (List.mem_append_right _ (List.mem_append_left _ (List.mem_of_getElem? (i := 134) (rfl : tables_1_3[134]? = some _))))) rfl
theorem gm_517 : (.code yX3_numberOn cX3_numberOn 3 (some .int) : Cond) ∈ gG := gm_t (List.mem_append_right _ (List.mem_append_right _ (List.mem_append_left _ (List.mem_of_getElem? (i := 135) (rfl : tables_1_3[135]? = some _))))) rfl
theorem gm_518 : (.methodLink RX3 110 yX3_orderOf : Cond) ∈ gG := gm_t (List.mem_append_right _ (List.mem_append_right _ (List.mem_append_left _ (List.mem_of_getElem? (i := 136) (rfl : tables_1_3[136]? = some _))))) rfl
theorem gm_519 : (.instanceMethod yX3_orderOf : Cond) ∈ gG := gm_t (List.mem_append_right _ (List.mem_append_right _ (List.mem_append_left _ (List.mem_of_getElem? (i := 138) (rfl : tables_1_3[138]? = some _))))) rfl
theorem gm_520 : (.code yX3_orderOf cX3_orderOf 4 (some .int) : Cond) ∈ gG := gm_t (List.mem_append_right _ (List.mem_append_right _ (List.mem_append_left _ (List.mem_of_getElem? (i := 139) (rfl : tables_1_3[139]? = some _))))) rfl
theorem gm_521 : (.methodLink RL 39 yX3_as : Cond) ∈ gG := gm_t (List.mem_append_right _ (List.mem_append_right _ (List.mem_append_left _ (List.mem_of_getElem? (i := 140) (rfl : tables_1_3[140]? = some _))))) rfl
theorem gm_522 : (.instanceMethod yX3_as : Cond) ∈ gG := gm_t (List.mem_append_right _ (List.mem_append_right _ (List.mem_append_left _ (List.mem_of_getElem? (i := 141) (rfl : tables_1_3[141]? = some _))))) rfl
theorem gm_523 : (.selects RX3 yX3_as yX3_as : Cond) ∈ gG := gm_t (List.mem_append_right _ (List.mem_append_right _ (List.mem_append_left _ (List.mem_of_getElem? (i := 142) (rfl : tables_1_3[142]? = some _))))) rfl
theorem gm_524 : (.code yX3_as cX3_as 4 (some .int) : Cond) ∈ gG := gm_t (List.mem_append_right _ (List.mem_append_right _ (List.mem_append_left _ (List.mem_of_getElem? (i := 143) (rfl : tables_1_3[143]? = some _))))) rfl
theorem gm_525 : (.methodLink RL 43 yX3_birth : Cond) ∈ gG := gm_t (List.mem_append_right _ (List.mem_append_right _ (List.mem_append_left _ (List.mem_of_getElem? (i := 144) (rfl : tables_1_3[144]? = some _))))) rfl
theorem gm_526 : (.instanceMethod yX3_birth : Cond) ∈ gG := gm_t (List.mem_append_right _ (List.mem_append_right _ (List.mem_append_left _ (List.mem_of_getElem? (i := 145) (rfl : tables_1_3[145]? = some _))))) rfl
theorem gm_527 : (.selects RX3 yX3_birth yX3_birth : Cond) ∈ gG := gm_t (List.mem_append_right _ (List.mem_append_right _ (List.mem_append_left _ (List.mem_of_getElem? (i := 146) (rfl : tables_1_3[146]? = some _))))) rfl
theorem gm_528 : (.code yX3_birth cX3_birth 2 (some .int) : Cond) ∈ gG := gm_t (List.mem_append_right _ (List.mem_append_right _ (List.mem_append_left _ (List.mem_of_getElem? (i := 147) (rfl : tables_1_3[147]? = some _))))) rfl
theorem gm_529 : (.methodLink RX3 128 yX3_mayBirth : Cond) ∈ gG := gm_t (List.mem_append_right _ (List.mem_append_right _ (List.mem_append_left _ (List.mem_of_getElem? (i := 148) (rfl : tables_1_3[148]? = some _))))) rfl
theorem gm_530 : (.instanceMethod yX3_mayBirth : Cond) ∈ gG := gm_t (List.mem_append_right _ (List.mem_append_right _ (List.mem_append_left _ (List.mem_of_getElem? (i := 150) (rfl : tables_1_3[150]? = some _))))) rfl
theorem gm_531 : (.code yX3_mayBirth cX3_mayBirth 2 (some .boolean) : Cond) ∈ gG := gm_t (List.mem_append_right _ (List.mem_append_right _ (List.mem_append_left _ (List.mem_of_getElem? (i := 151) (rfl : tables_1_3[151]? = some _))))) rfl
theorem gm_532 : (.methodLink RX3 131 yX3_ageNone : Cond) ∈ gG := gm_t (List.mem_append_right _ (List.mem_append_right _ (List.mem_append_left _ (List.mem_of_getElem? (i := 152) (rfl : tables_1_3[152]? = some _))))) rfl
theorem gm_533 : (.instanceMethod yX3_ageNone : Cond) ∈ gG := gm_t (List.mem_append_right _ (List.mem_append_right _ (List.mem_append_left _ (List.mem_of_getElem? (i := 154) (rfl : tables_1_3[154]? = some _))))) rfl
theorem gm_534 : (.code yX3_ageNone cX3_ageNone 2 none : Cond) ∈ gG := gm_t (List.mem_append_right _ (List.mem_append_right _ (List.mem_append_left _ (List.mem_of_getElem? (i := 155) (rfl : tables_1_3[155]? = some _))))) rfl
theorem gm_535 : (.methodLink RX3 104 yX3_lends : Cond) ∈ gG := gm_t (List.mem_append_right _ (List.mem_append_right _ (List.mem_append_left _ (List.mem_of_getElem? (i := 156) (rfl : tables_1_3[156]? = some _))))) rfl
theorem gm_536 : (.instanceMethod yX3_lends : Cond) ∈ gG := gm_t (List.mem_append_right _ (List.mem_append_right _ (List.mem_append_left _ (List.mem_of_getElem? (i := 158) (rfl : tables_1_3[158]? = some _))))) rfl
theorem gm_537 : (.code yX3_lends cX3_lends 2 (some .boolean) : Cond) ∈ gG := gm_t (List.mem_append_right _ (List.mem_append_right _ (List.mem_append_left _ (List.mem_of_getElem? (i := 159) (rfl : tables_1_3[159]? = some _))))) rfl
theorem gm_538 : (.methodLink RL 47 yX3_day : Cond) ∈ gG := gm_t (List.mem_append_right _ (List.mem_append_right _ (List.mem_append_left _ (List.mem_of_getElem? (i := 160) (rfl : tables_1_3[160]? = some _))))) rfl
theorem gm_539 : (.instanceMethod yX3_day : Cond) ∈ gG := gm_t (List.mem_append_right _ (List.mem_append_right _ (List.mem_append_left _ (List.mem_of_getElem? (i := 161) (rfl : tables_1_3[161]? = some _))))) rfl
theorem gm_540 : (.selects RX3 yX3_day yX3_day : Cond) ∈ gG := gm_t (List.mem_append_right _ (List.mem_append_right _ (List.mem_append_left _ (List.mem_of_getElem? (i := 162) (rfl : tables_1_3[162]? = some _))))) rfl
theorem gm_541 : (.code yX3_day cX3_day 2 (some .int) : Cond) ∈ gG := gm_t (List.mem_append_right _ (List.mem_append_right _ (List.mem_append_left _ (List.mem_of_getElem? (i := 163) (rfl : tables_1_3[163]? = some _))))) rfl
theorem gm_542 : (.methodLink RX3 135 yX3_ageMore : Cond) ∈ gG := gm_t (List.mem_append_right _ (List.mem_append_right _ (List.mem_append_left _ (List.mem_of_getElem? (i := 164) (rfl : tables_1_3[164]? = some _))))) rfl
theorem gm_543 : (.instanceMethod yX3_ageMore : Cond) ∈ gG := gm_t (List.mem_append_right _ (List.mem_append_right _ (List.mem_append_left _ (List.mem_of_getElem? (i := 166) (rfl : tables_1_3[166]? = some _))))) rfl
theorem gm_544 : (.code yX3_ageMore cX3_ageMore 2 none : Cond) ∈ gG := gm_t (List.mem_append_right _ (List.mem_append_right _ (List.mem_append_left _ (List.mem_of_getElem? (i := 167) (rfl : tables_1_3[167]? = some _))))) rfl
theorem gm_545 : (.methodLink RL 51 yX3_then : Cond) ∈ gG := gm_t (List.mem_append_right _ (List.mem_append_right _ (List.mem_append_left _ (List.mem_of_getElem? (i := 168) (rfl : tables_1_3[168]? = some _))))) rfl
theorem gm_546 : (.instanceMethod yX3_then : Cond) ∈ gG := gm_t (List.mem_append_right _ (List.mem_append_right _ (List.mem_append_left _ (List.mem_of_getElem? (i := 169) (rfl : tables_1_3[169]? = some _))))) rfl
theorem gm_547 : (.selects RX3 yX3_then yX3_then : Cond) ∈ gG := gm_t (List.mem_append_right _ (List.mem_append_right _ (List.mem_append_left _ (List.mem_of_getElem? (i := 170) (rfl : tables_1_3[170]? = some _))))) rfl
theorem gm_548 : (.code yX3_then cX3_then 3 (some .int) : Cond) ∈ gG := gm_t (List.mem_append_right _ (List.mem_append_right _ (List.mem_append_left _ (List.mem_of_getElem? (i := 171) (rfl : tables_1_3[171]? = some _))))) rfl
theorem gm_549 : (.methodLink RX3 138 yX3_isDay : Cond) ∈ gG := gm_t (List.mem_append_right _ (List.mem_append_right _ (List.mem_append_left _ (List.mem_of_getElem? (i := 172) (rfl : tables_1_3[172]? = some _))))) rfl
theorem gm_550 : (.instanceMethod yX3_isDay : Cond) ∈ gG := gm_t (List.mem_append_right _ (List.mem_append_right _ (List.mem_append_left _ (List.mem_of_getElem? (i := 174) (rfl : tables_1_3[174]? = some _))))) rfl
theorem gm_551 : (.code yX3_isDay cX3_isDay 2 (some .boolean) : Cond) ∈ gG := gm_t (List.mem_append_right _ (List.mem_append_right _ (List.mem_append_left _ (List.mem_of_getElem? (i := 175) (rfl : tables_1_3[175]? = some _))))) rfl
theorem gm_552 : (.methodLink RL 55 yX3_goesTo : Cond) ∈ gG := gm_t (List.mem_append_right _ (List.mem_append_right _ (List.mem_append_left _ (List.mem_of_getElem? (i := 176) (rfl : tables_1_3[176]? = some _))))) rfl
theorem gm_553 : (.instanceMethod yX3_goesTo : Cond) ∈ gG := gm_t (List.mem_append_right _ (List.mem_append_right _ (List.mem_append_left _ (List.mem_of_getElem? (i := 177) (rfl : tables_1_3[177]? = some _))))) rfl
theorem gm_554 : (.selects RX3 yX3_goesTo yX3_goesTo : Cond) ∈ gG := gm_t (List.mem_append_right _ (List.mem_append_right _ (List.mem_append_left _ (List.mem_of_getElem? (i := 178) (rfl : tables_1_3[178]? = some _))))) rfl
theorem gm_555 : (.code yX3_goesTo cX3_goesTo 3 (some .int) : Cond) ∈ gG := gm_t (List.mem_append_right _ (List.mem_append_right _ (List.mem_append_left _ (List.mem_of_getElem? (i := 179) (rfl : tables_1_3[179]? = some _))))) rfl
theorem gm_556 : (.methodLink RL 59 yX3_walk : Cond) ∈ gG := gm_t (List.mem_append_right _ (List.mem_append_right _ (List.mem_append_left _ (List.mem_of_getElem? (i := 180) (rfl : tables_1_3[180]? = some _))))) rfl
theorem gm_557 : (.instanceMethod yX3_walk : Cond) ∈ gG := gm_t (List.mem_append_right _ (List.mem_append_right _ (List.mem_append_left _ (List.mem_of_getElem? (i := 181) (rfl : tables_1_3[181]? = some _))))) rfl
theorem gm_558 : (.selects RX3 yX3_walk yX3_walk : Cond) ∈ gG := gm_t (List.mem_append_right _ (List.mem_append_right _ (List.mem_append_left _ (List.mem_of_getElem? (i := 182) (rfl : tables_1_3[182]? = some _))))) rfl
theorem gm_559 : (.code yX3_walk cX3_walk 1 (some .int) : Cond) ∈ gG := gm_t (List.mem_append_right _ (List.mem_append_right _ (List.mem_append_left _ (List.mem_of_getElem? (i := 183) (rfl : tables_1_3[183]? = some _))))) rfl
theorem gm_560 : (.methodLink RX3 141 yX3_walkNow : Cond) ∈ gG := gm_t (List.mem_append_right _ (List.mem_append_right _ (List.mem_append_left _ (List.mem_of_getElem? (i := 184) (rfl : tables_1_3[184]? = some _))))) rfl
theorem gm_561 : (.instanceMethod yX3_walkNow : Cond) ∈ gG := gm_t (List.mem_append_right _ (List.mem_append_right _ (List.mem_append_left _ (List.mem_of_getElem? (i := 186) (rfl : tables_1_3[186]? = some _))))) rfl
theorem gm_562 : (.code yX3_walkNow cX3_walkNow 5 (some .int) : Cond) ∈ gG := gm_t (List.mem_append_right _ (List.mem_append_right _ (List.mem_append_left _ (List.mem_of_getElem? (i := 187) (rfl : tables_1_3[187]? = some _))))) rfl
theorem gm_563 : (.methodLink RL 63 yX3_debt : Cond) ∈ gG := gm_t (List.mem_append_right _ (List.mem_append_right _ (List.mem_append_left _ (List.mem_of_getElem? (i := 188) (rfl : tables_1_3[188]? = some _))))) rfl
theorem gm_564 : (.instanceMethod yX3_debt : Cond) ∈ gG := gm_t (List.mem_append_right _ (List.mem_append_right _ (List.mem_append_left _ (List.mem_of_getElem? (i := 189) (rfl : tables_1_3[189]? = some _))))) rfl
theorem gm_565 : (.selects RX3 yX3_debt yX3_debt : Cond) ∈ gG := gm_t (List.mem_append_right _ (List.mem_append_right _ (List.mem_append_left _ (List.mem_of_getElem? (i := 190) (rfl : tables_1_3[190]? = some _))))) rfl
theorem gm_566 : (.code yX3_debt cX3_debt 3 (some .int) : Cond) ∈ gG := gm_t (List.mem_append_right _ (List.mem_append_right _ (List.mem_append_left _ (List.mem_of_getElem? (i := 191) (rfl : tables_1_3[191]? = some _))))) rfl
theorem gm_567 : (.methodLink RL 67 yX3_pay : Cond) ∈ gG := gm_t (List.mem_append_right _ (List.mem_append_right _ (List.mem_append_left _ (List.mem_of_getElem? (i := 192) (rfl : tables_1_3[192]? = some _))))) rfl
theorem gm_568 : (.instanceMethod yX3_pay : Cond) ∈ gG := gm_t (List.mem_append_right _ (List.mem_append_right _ (List.mem_append_left _ (List.mem_of_getElem? (i := 193) (rfl : tables_1_3[193]? = some _))))) rfl
theorem gm_569 : (.selects RX3 yX3_pay yX3_pay : Cond) ∈ gG := gm_t (List.mem_append_right _ (List.mem_append_right _ (List.mem_append_left _ (List.mem_of_getElem? (i := 194) (rfl : tables_1_3[194]? = some _))))) rfl
theorem gm_570 : (.code yX3_pay cX3_pay 3 (some .int) : Cond) ∈ gG := gm_t (List.mem_append_right _ (List.mem_append_right _ (List.mem_append_left _ (List.mem_of_getElem? (i := 195) (rfl : tables_1_3[195]? = some _))))) rfl
theorem gm_571 : (.methodLink RL 71 yX3_cheap : Cond) ∈ gG := gm_t (List.mem_append_right _ (List.mem_append_right _ (List.mem_append_left _ (List.mem_of_getElem? (i := 196) (rfl : tables_1_3[196]? = some _))))) rfl
theorem gm_572 : (.instanceMethod yX3_cheap : Cond) ∈ gG := gm_t (List.mem_append_right _ (List.mem_append_right _ (List.mem_append_left _ (List.mem_of_getElem? (i := 197) (rfl : tables_1_3[197]? = some _))))) rfl
theorem gm_573 : (.selects RX3 yX3_cheap yX3_cheap : Cond) ∈ gG := gm_t (List.mem_append_right _ (List.mem_append_right _ (List.mem_append_left _ (List.mem_of_getElem? (i := 198) (rfl : tables_1_3[198]? = some _))))) rfl
theorem gm_574 : (.code yX3_cheap cX3_cheap 3 (some .int) : Cond) ∈ gG := gm_t (List.mem_append_right _ (List.mem_append_right _ (List.mem_append_left _ (List.mem_of_getElem? (i := 199) (rfl : tables_1_3[199]? = some _))))) rfl
theorem gm_575 : (.methodLink RX3 164 yX3_cheapNow : Cond) ∈ gG := gm_t (List.mem_append_right _ (List.mem_append_right _ (List.mem_append_left _ (List.mem_of_getElem? (i := 200) (rfl : tables_1_3[200]? = some _))))) rfl
theorem gm_576 : (.instanceMethod yX3_cheapNow : Cond) ∈ gG := gm_t (List.mem_append_right _ (List.mem_append_right _ (List.mem_append_left _ (List.mem_of_getElem? (i := 202) (rfl : tables_1_3[202]? = some _))))) rfl
theorem gm_577 : (.code yX3_cheapNow cX3_cheapNow 6 (some .int) : Cond) ∈ gG := gm_t (List.mem_append_right _ (List.mem_append_right _ (List.mem_append_left _ (List.mem_of_getElem? (i := 203) (rfl : tables_1_3[203]? = some _))))) rfl
theorem gm_578 : (.methodLink RX3 155 yX3_save : Cond) ∈ gG := gm_t (List.mem_append_right _ (List.mem_append_right _ (List.mem_append_left _ (List.mem_of_getElem? (i := 204) (rfl : tables_1_3[204]? = some _))))) rfl
theorem gm_579 : (.instanceMethod yX3_save : Cond) ∈ gG := gm_t (List.mem_append_right _ (List.mem_append_right _ (List.mem_append_left _ (List.mem_of_getElem? (i := 206) (rfl : tables_1_3[206]? = some _))))) rfl
theorem gm_580 : (.code yX3_save cX3_save 2 none : Cond) ∈ gG := gm_t (List.mem_append_right _ (List.mem_append_right _ (List.mem_append_left _ (List.mem_of_getElem? (i := 207) (rfl : tables_1_3[207]? = some _))))) rfl
theorem gm_581 : (.methodLink RX3 158 yX3_size : Cond) ∈ gG := gm_t (List.mem_append_right _ (List.mem_append_right _ (List.mem_append_left _ (List.mem_of_getElem? (i := 208) (rfl : tables_1_3[208]? = some _))))) rfl
theorem gm_582 : (.static yX3_size : Cond) ∈ gG := gm_t (List.mem_append_right _ (List.mem_append_right _ (List.mem_append_left _ (List.mem_of_getElem? (i := 209) (rfl : tables_1_3[209]? = some _))))) rfl
theorem gm_583 : (.code yX3_size cX3_size 3 (some .int) : Cond) ∈ gG := gm_t (List.mem_append_right _ (List.mem_append_right _ (List.mem_append_left _ (List.mem_of_getElem? (i := 210) (rfl : tables_1_3[210]? = some _))))) rfl
theorem gm_584 : (.methodLink RX3 161 yX3_numbersBy : Cond) ∈ gG := gm_t (List.mem_append_right _ (List.mem_append_right _ (List.mem_append_left _ (List.mem_of_getElem? (i := 211) (rfl : tables_1_3[211]? = some _))))) rfl
theorem gm_585 : (.instanceMethod yX3_numbersBy : Cond) ∈ gG := gm_t (List.mem_append_right _ (List.mem_append_right _ (List.mem_append_left _ (List.mem_of_getElem? (i := 213) (rfl : tables_1_3[213]? = some _))))) rfl
theorem gm_586 : (.code yX3_numbersBy cX3_numbersBy 4 (some .int) : Cond) ∈ gG := gm_t (List.mem_append_right _ (List.mem_append_right _ (List.mem_append_left _ (List.mem_of_getElem? (i := 214) (rfl : tables_1_3[214]? = some _))))) rfl
theorem gm_587 : (.methodLink RX3 144 yX3_isIn : Cond) ∈ gG := gm_t (List.mem_append_right _ (List.mem_append_right _ (List.mem_append_left _ (List.mem_of_getElem? (i := 215) (rfl : tables_1_3[215]? = some _))))) rfl
theorem gm_588 : (.static yX3_isIn : Cond) ∈ gG := gm_t (List.mem_append_right _ (List.mem_append_right _ (List.mem_append_left _ (List.mem_of_getElem? (i := 216) (rfl : tables_1_3[216]? = some _))))) rfl
theorem gm_589 : (.code yX3_isIn cX3_isIn 2 (some .boolean) : Cond) ∈ gG := gm_t (List.mem_append_right _ (List.mem_append_right _ (List.mem_append_left _ (List.mem_of_getElem? (i := 217) (rfl : tables_1_3[217]? = some _))))) rfl
theorem gm_590 : (.methodLink RX3 148 yX3_numbersAll : Cond) ∈ gG := gm_t (List.mem_append_right _ (List.mem_append_right _ (List.mem_append_left _ (List.mem_of_getElem? (i := 218) (rfl : tables_1_3[218]? = some _))))) rfl
theorem gm_591 : (.instanceMethod yX3_numbersAll : Cond) ∈ gG := gm_t (List.mem_append_right _ (List.mem_append_right _ (List.mem_append_left _ (List.mem_of_getElem? (i := 220) (rfl : tables_1_3[220]? = some _))))) rfl
theorem gm_592 : (.code yX3_numbersAll cX3_numbersAll 3 (some .int) : Cond) ∈ gG := gm_t (List.mem_append_right _ (List.mem_append_right _ (List.mem_append_left _ (List.mem_of_getElem? (i := 221) (rfl : tables_1_3[221]? = some _))))) rfl
theorem gm_593 : (.methodLink RX3 151 yX3_load : Cond) ∈ gG := gm_t (List.mem_append_right _ (List.mem_append_right _ (List.mem_append_left _ (List.mem_of_getElem? (i := 222) (rfl : tables_1_3[222]? = some _))))) rfl
theorem gm_594 : (.instanceMethod yX3_load : Cond) ∈ gG := gm_t (List.mem_append_right _ (List.mem_append_right _ (List.mem_append_left _ (List.mem_of_getElem? (i := 224) (rfl : tables_1_3[224]? = some _))))) rfl
theorem gm_595 : (.code yX3_load cX3_load 2 none : Cond) ∈ gG := gm_t (List.mem_append_right _ (List.mem_append_right _ (List.mem_append_left _ (List.mem_of_getElem? (i := 225) (rfl : tables_1_3[225]? = some _))))) rfl
theorem gm_596 : (.constant RX3 154 (268435456 : Int32) : Cond) ∈ gG := gm_t (List.mem_append_right _ (List.mem_append_right _ (List.mem_append_left _ (List.mem_of_getElem? (i := 226) (rfl : tables_1_3[226]? = some _))))) rfl
theorem gm_597 : (.methodLink RL 75 yX3_when : Cond) ∈ gG := gm_t (List.mem_append_right _ (List.mem_append_right _ (List.mem_append_left _ (List.mem_of_getElem? (i := 227) (rfl : tables_1_3[227]? = some _))))) rfl
theorem gm_598 : (.instanceMethod yX3_when : Cond) ∈ gG := gm_t (List.mem_append_right _ (List.mem_append_right _ (List.mem_append_left _ (List.mem_of_getElem? (i := 228) (rfl : tables_1_3[228]? = some _))))) rfl
theorem gm_599 : (.selects RX3 yX3_when yX3_when : Cond) ∈ gG := gm_t (List.mem_append_right _ (List.mem_append_right _ (List.mem_append_left _ (List.mem_of_getElem? (i := 229) (rfl : tables_1_3[229]? = some _))))) rfl
theorem gm_600 : (.code yX3_when cX3_when 3 (some .int) : Cond) ∈ gG := gm_t (List.mem_append_right _ (List.mem_append_right _ (List.mem_append_left _ (List.mem_of_getElem? (i := 230) (rfl : tables_1_3[230]? = some _))))) rfl
theorem gm_601 : (.methodLink RX3 167 yX3_whenNow : Cond) ∈ gG := gm_t (List.mem_append_right _ (List.mem_append_right _ (List.mem_append_left _ (List.mem_of_getElem? (i := 231) (rfl : tables_1_3[231]? = some _))))) rfl
theorem gm_602 : (.instanceMethod yX3_whenNow : Cond) ∈ gG := gm_t (List.mem_append_right _ (List.mem_append_right _ (List.mem_append_left _ (List.mem_of_getElem? (i := 233) (rfl : tables_1_3[233]? = some _))))) rfl
theorem gm_603 : (.code yX3_whenNow cX3_whenNow 4 (some .int) : Cond) ∈ gG := gm_t (List.mem_append_right _ (List.mem_append_right _ (List.mem_append_left _ (List.mem_of_getElem? (i := 234) (rfl : tables_1_3[234]? = some _))))) rfl
theorem gm_604 : (.methodLink RL 79 yX3_hear : Cond) ∈ gG := gm_t (List.mem_append_right _ (List.mem_append_right _ (List.mem_append_left _ (List.mem_of_getElem? (i := 235) (rfl : tables_1_3[235]? = some _))))) rfl
theorem gm_605 : (.instanceMethod yX3_hear : Cond) ∈ gG := gm_t (List.mem_append_right _ (List.mem_append_right _ (List.mem_append_left _ (List.mem_of_getElem? (i := 236) (rfl : tables_1_3[236]? = some _))))) rfl
theorem gm_606 : (.selects RX3 yX3_hear yX3_hear : Cond) ∈ gG := gm_t (List.mem_append_right _ (List.mem_append_right _ (List.mem_append_left _ (List.mem_of_getElem? (i := 237) (rfl : tables_1_3[237]? = some _))))) rfl
theorem gm_607 : (.code yX3_hear cX3_hear 3 (some .int) : Cond) ∈ gG := gm_t (List.mem_append_right _ (List.mem_append_right _ (List.mem_append_left _ (List.mem_of_getElem? (i := 238) (rfl : tables_1_3[238]? = some _))))) rfl
theorem gm_608 : (.methodLink RL 83 yX3_forget : Cond) ∈ gG := gm_t (List.mem_append_right _ (List.mem_append_right _ (List.mem_append_left _ (List.mem_of_getElem? (i := 239) (rfl : tables_1_3[239]? = some _))))) rfl
theorem gm_609 : (.instanceMethod yX3_forget : Cond) ∈ gG := gm_t (List.mem_append_right _ (List.mem_append_right _ (List.mem_append_right _ (List.mem_of_getElem? (i := 0) (rfl : tables_1_4[0]? = some _))))) rfl
theorem gm_610 : (.selects RX3 yX3_forget yX3_forget : Cond) ∈ gG := gm_t (List.mem_append_right _ (List.mem_append_right _ (List.mem_append_right _ (List.mem_of_getElem? (i := 1) (rfl : tables_1_4[1]? = some _))))) rfl
theorem gm_611 : (.code yX3_forget cX3_forget 2 (some .int) : Cond) ∈ gG := gm_t (List.mem_append_right _ (List.mem_append_right _ (List.mem_append_right _ (List.mem_of_getElem? (i := 2) (rfl : tables_1_4[2]? = some _))))) rfl
theorem gm_612 : (.methodLink RL 87 yX3_days : Cond) ∈ gG := gm_t (List.mem_append_right _ (List.mem_append_right _ (List.mem_append_right _ (List.mem_of_getElem? (i := 3) (rfl : tables_1_4[3]? = some _))))) rfl
theorem gm_613 : (.instanceMethod yX3_days : Cond) ∈ gG := gm_t (List.mem_append_right _ (List.mem_append_right _ (List.mem_append_right _ (List.mem_of_getElem? (i := 4) (rfl : tables_1_4[4]? = some _))))) rfl
theorem gm_614 : (.selects RX3 yX3_days yX3_days : Cond) ∈ gG := gm_t (List.mem_append_right _ (List.mem_append_right _ (List.mem_append_right _ (List.mem_of_getElem? (i := 5) (rfl : tables_1_4[5]? = some _))))) rfl
theorem gm_615 : (.code yX3_days cX3_days 2 (some .int) : Cond) ∈ gG := gm_t (List.mem_append_right _ (List.mem_append_right _ (List.mem_append_right _ (List.mem_of_getElem? (i := 6) (rfl : tables_1_4[6]? = some _))))) rfl
theorem gm_616 : (.methodLink RX3 173 yX3_daysNow : Cond) ∈ gG := gm_t (List.mem_append_right _ (List.mem_append_right _ (List.mem_append_right _ (List.mem_of_getElem? (i := 7) (rfl : tables_1_4[7]? = some _))))) rfl
theorem gm_617 : (.instanceMethod yX3_daysNow : Cond) ∈ gG := gm_t (List.mem_append_right _ (List.mem_append_right _ (List.mem_append_right _ (List.mem_of_getElem? (i := 9) (rfl : tables_1_4[9]? = some _))))) rfl
theorem gm_618 : (.code yX3_daysNow cX3_daysNow 6 (some .int) : Cond) ∈ gG := gm_t (List.mem_append_right _ (List.mem_append_right _ (List.mem_append_right _ (List.mem_of_getElem? (i := 10) (rfl : tables_1_4[10]? = some _))))) rfl
theorem gm_619 : (.methodLink RX3 170 yX3_isHeard : Cond) ∈ gG := gm_t (List.mem_append_right _ (List.mem_append_right _ (List.mem_append_right _ (List.mem_of_getElem? (i := 11) (rfl : tables_1_4[11]? = some _))))) rfl
theorem gm_620 : (.instanceMethod yX3_isHeard : Cond) ∈ gG := gm_t (List.mem_append_right _ (List.mem_append_right _ (List.mem_append_right _ (List.mem_of_getElem? (i := 13) (rfl : tables_1_4[13]? = some _))))) rfl
theorem gm_621 : (.code yX3_isHeard cX3_isHeard 4 (some .boolean) : Cond) ∈ gG := gm_t (List.mem_append_right _ (List.mem_append_right _ (List.mem_append_right _ (List.mem_of_getElem? (i := 14) (rfl : tables_1_4[14]? = some _))))) rfl
theorem gm_622 : (.methodLink RL 91 yX3_ask : Cond) ∈ gG := gm_t (List.mem_append_right _ (List.mem_append_right _ (List.mem_append_right _ (List.mem_of_getElem? (i := 15) (rfl : tables_1_4[15]? = some _))))) rfl
theorem gm_623 : (.instanceMethod yX3_ask : Cond) ∈ gG := gm_t (List.mem_append_right _ (List.mem_append_right _ (List.mem_append_right _ (List.mem_of_getElem? (i := 16) (rfl : tables_1_4[16]? = some _))))) rfl
theorem gm_624 : (.selects RX3 yX3_ask yX3_ask : Cond) ∈ gG := gm_t (List.mem_append_right _ (List.mem_append_right _ (List.mem_append_right _ (List.mem_of_getElem? (i := 17) (rfl : tables_1_4[17]? = some _))))) rfl
theorem gm_625 : (.code yX3_ask cX3_ask 1 (some .int) : Cond) ∈ gG := gm_t (List.mem_append_right _ (List.mem_append_right _ (List.mem_append_right _ (List.mem_of_getElem? (i := 18) (rfl : tables_1_4[18]? = some _))))) rfl
theorem gm_626 : (.methodLink RX3 179 yX3_askNow : Cond) ∈ gG := gm_t (List.mem_append_right _ (List.mem_append_right _ (List.mem_append_right _ (List.mem_of_getElem? (i := 19) (rfl : tables_1_4[19]? = some _))))) rfl
theorem gm_627 : (.instanceMethod yX3_askNow : Cond) ∈ gG := gm_t (List.mem_append_right _ (List.mem_append_right _ (List.mem_append_right _ (List.mem_of_getElem? (i := 21) (rfl : tables_1_4[21]? = some _))))) rfl
theorem gm_628 : (.code yX3_askNow cX3_askNow 5 (some .int) : Cond) ∈ gG := gm_t (List.mem_append_right _ (List.mem_append_right _ (List.mem_append_right _ (List.mem_of_getElem? (i := 22) (rfl : tables_1_4[22]? = some _))))) rfl
theorem gm_629 : (.methodLink RX3 176 yX3_worstOf : Cond) ∈ gG := gm_t (List.mem_append_right _ (List.mem_append_right _ (List.mem_append_right _ (List.mem_of_getElem? (i := 23) (rfl : tables_1_4[23]? = some _))))) rfl
theorem gm_630 : (.instanceMethod yX3_worstOf : Cond) ∈ gG := gm_t (List.mem_append_right _ (List.mem_append_right _ (List.mem_append_right _ (List.mem_of_getElem? (i := 25) (rfl : tables_1_4[25]? = some _))))) rfl
theorem gm_631 : (.code yX3_worstOf cX3_worstOf 6 (some .int) : Cond) ∈ gG := gm_t (List.mem_append_right _ (List.mem_append_right _ (List.mem_append_right _ (List.mem_of_getElem? (i := 26) (rfl : tables_1_4[26]? = some _))))) rfl
theorem gm_632 : (.methodLink RL 96 yX3_years : Cond) ∈ gG := gm_t (List.mem_append_right _ (List.mem_append_right _ (List.mem_append_right _ (List.mem_of_getElem? (i := 27) (rfl : tables_1_4[27]? = some _))))) rfl
theorem gm_633 : (.instanceMethod yX3_years : Cond) ∈ gG := gm_t (List.mem_append_right _ (List.mem_append_right _ (List.mem_append_right _ (List.mem_of_getElem? (i := 28) (rfl : tables_1_4[28]? = some _))))) rfl
theorem gm_634 : (.selects RX3 yX3_years yX3_years : Cond) ∈ gG := gm_t (List.mem_append_right _ (List.mem_append_right _ (List.mem_append_right _ (List.mem_of_getElem? (i := 29) (rfl : tables_1_4[29]? = some _))))) rfl
theorem gm_635 : (.code yX3_years cX3_years 4 (some .int) : Cond) ∈ gG := gm_t (List.mem_append_right _ (List.mem_append_right _ (List.mem_append_right _ (List.mem_of_getElem? (i := 30) (rfl : tables_1_4[30]? = some _))))) rfl
theorem gm_636 : (.methodLink RX3 197 yX3_yearsNow : Cond) ∈ gG := gm_t (List.mem_append_right _ (List.mem_append_right _ (List.mem_append_right _ (List.mem_of_getElem? (i := 31) (rfl : tables_1_4[31]? = some _))))) rfl
theorem gm_637 : (.instanceMethod yX3_yearsNow : Cond) ∈ gG := gm_t (List.mem_append_right _ (List.mem_append_right _ (List.mem_append_right _ (List.mem_of_getElem? (i := 33) (rfl : tables_1_4[33]? = some _))))) rfl
theorem gm_638 : (.code yX3_yearsNow cX3_yearsNow 7 (some .int) : Cond) ∈ gG := gm_t (List.mem_append_right _ (List.mem_append_right _ (List.mem_append_right _ (List.mem_of_getElem? (i := 34) (rfl : tables_1_4[34]? = some _))))) rfl
theorem gm_639 : (.methodLink RX3 194 yX3_draw : Cond) ∈ gG := gm_t (List.mem_append_right _ (List.mem_append_right _ (List.mem_append_right _ (List.mem_of_getElem? (i := 35) (rfl : tables_1_4[35]? = some _))))) rfl
theorem gm_640 : (.instanceMethod yX3_draw : Cond) ∈ gG := gm_t (List.mem_append_right _ (List.mem_append_right _ (List.mem_append_right _ (List.mem_of_getElem? (i := 37) (rfl : tables_1_4[37]? = some _))))) rfl
theorem gm_641 : (.code yX3_draw cX3_draw 2 (some .int) : Cond) ∈ gG := gm_t (List.mem_append_right _ (List.mem_append_right _ (List.mem_append_right _ (List.mem_of_getElem? (i := 38) (rfl : tables_1_4[38]? = some _))))) rfl
theorem gm_642 : (.constantLong RX3 182 (1103515245 : Int64) : Cond) ∈ gG := gm_t (List.mem_append_right _ (List.mem_append_right _ (List.mem_append_right _ (List.mem_of_getElem? (i := 39) (rfl : tables_1_4[39]? = some _))))) rfl
theorem gm_643 : (.constantLong RX3 188 (12345 : Int64) : Cond) ∈ gG := gm_t (List.mem_append_right _ (List.mem_append_right _ (List.mem_append_right _ (List.mem_of_getElem? (i := 40) (rfl : tables_1_4[40]? = some _))))) rfl
theorem gm_644 : (.constantLong RX3 190 (2147483647 : Int64) : Cond) ∈ gG := gm_t (List.mem_append_right _ (List.mem_append_right _ (List.mem_append_right _ (List.mem_of_getElem? (i := 41) (rfl : tables_1_4[41]? = some _))))) rfl
theorem gm_645 : (.constantLong RX3 192 (65536 : Int64) : Cond) ∈ gG := gm_t (List.mem_append_right _ (List.mem_append_right _ (List.mem_append_right _ (List.mem_of_getElem? (i := 42) (rfl : tables_1_4[42]? = some _))))) rfl
theorem gm_646 : (.methodLink RL 100 yX3_image : Cond) ∈ gG := gm_t (List.mem_append_right _ (List.mem_append_right _ (List.mem_append_right _ (List.mem_of_getElem? (i := 43) (rfl : tables_1_4[43]? = some _))))) rfl
theorem gm_647 : (.instanceMethod yX3_image : Cond) ∈ gG := gm_t (List.mem_append_right _ (List.mem_append_right _ (List.mem_append_right _ (List.mem_of_getElem? (i := 44) (rfl : tables_1_4[44]? = some _))))) rfl
theorem gm_648 : (.selects RX3 yX3_image yX3_image : Cond) ∈ gG := gm_t (List.mem_append_right _ (List.mem_append_right _ (List.mem_append_right _ (List.mem_of_getElem? (i := 45) (rfl : tables_1_4[45]? = some _))))) rfl
theorem gm_649 : (.code yX3_image cX3_image 2 (some .int) : Cond) ∈ gG := gm_t (List.mem_append_right _ (List.mem_append_right _ (List.mem_append_right _ (List.mem_of_getElem? (i := 46) (rfl : tables_1_4[46]? = some _))))) rfl
theorem gm_650 : (.methodLink RL 104 yX3_restore : Cond) ∈ gG := gm_t (List.mem_append_right _ (List.mem_append_right _ (List.mem_append_right _ (List.mem_of_getElem? (i := 47) (rfl : tables_1_4[47]? = some _))))) rfl
theorem gm_651 : (.instanceMethod yX3_restore : Cond) ∈ gG := gm_t (List.mem_append_right _ (List.mem_append_right _ (List.mem_append_right _ (List.mem_of_getElem? (i := 48) (rfl : tables_1_4[48]? = some _))))) rfl
theorem gm_652 : (.selects RX3 yX3_restore yX3_restore : Cond) ∈ gG := gm_t (List.mem_append_right _ (List.mem_append_right _ (List.mem_append_right _ (List.mem_of_getElem? (i := 49) (rfl : tables_1_4[49]? = some _))))) rfl
theorem gm_653 : (.code yX3_restore cX3_restore 2 (some .int) : Cond) ∈ gG := gm_t (List.mem_append_right _ (List.mem_append_right _ (List.mem_append_right _ (List.mem_of_getElem? (i := 50) (rfl : tables_1_4[50]? = some _))))) rfl
theorem gm_654 : (.methodLink RL 108 yX3_count : Cond) ∈ gG := gm_t (List.mem_append_right _ (List.mem_append_right _ (List.mem_append_right _ (List.mem_of_getElem? (i := 51) (rfl : tables_1_4[51]? = some _))))) rfl
theorem gm_655 : (.instanceMethod yX3_count : Cond) ∈ gG := gm_t (List.mem_append_right _ (List.mem_append_right _ (List.mem_append_right _ (List.mem_of_getElem? (i := 52) (rfl : tables_1_4[52]? = some _))))) rfl
theorem gm_656 : (.selects RX3 yX3_count yX3_count : Cond) ∈ gG := gm_t (List.mem_append_right _ (List.mem_append_right _ (List.mem_append_right _ (List.mem_of_getElem? (i := 53) (rfl : tables_1_4[53]? = some _))))) rfl
theorem gm_657 : (.code yX3_count cX3_count 2 (some .int) : Cond) ∈ gG := gm_t (List.mem_append_right _ (List.mem_append_right _ (List.mem_append_right _ (List.mem_of_getElem? (i := 54) (rfl : tables_1_4[54]? = some _))))) rfl
theorem gm_658 : (.methodLink RX3 226 yX3_howMany : Cond) ∈ gG := gm_t (List.mem_append_right _ (List.mem_append_right _ (List.mem_append_right _ (List.mem_of_getElem? (i := 55) (rfl : tables_1_4[55]? = some _))))) rfl
theorem gm_659 : (.instanceMethod yX3_howMany : Cond) ∈ gG := gm_t (List.mem_append_right _ (List.mem_append_right _ (List.mem_append_right _ (List.mem_of_getElem? (i := 57) (rfl : tables_1_4[57]? = some _))))) rfl
theorem gm_660 : (.code yX3_howMany cX3_howMany 2 (some .int) : Cond) ∈ gG := gm_t (List.mem_append_right _ (List.mem_append_right _ (List.mem_append_right _ (List.mem_of_getElem? (i := 58) (rfl : tables_1_4[58]? = some _))))) rfl
theorem gm_661 : (.methodLink RX3 220 yX3_unlike : Cond) ∈ gG := gm_t (List.mem_append_right _ (List.mem_append_right _ (List.mem_append_right _ (List.mem_of_getElem? (i := 59) (rfl : tables_1_4[59]? = some _))))) rfl
theorem gm_662 : (.instanceMethod yX3_unlike : Cond) ∈ gG := gm_t (List.mem_append_right _ (List.mem_append_right _ (List.mem_append_right _ (List.mem_of_getElem? (i := 61) (rfl : tables_1_4[61]? = some _))))) rfl
theorem gm_663 : (.code yX3_unlike cX3_unlike 3 (some .int) : Cond) ∈ gG := gm_t (List.mem_append_right _ (List.mem_append_right _ (List.mem_append_right _ (List.mem_of_getElem? (i := 62) (rfl : tables_1_4[62]? = some _))))) rfl
theorem gm_664 : (.methodLink RX3 223 yX3_owesAll : Cond) ∈ gG := gm_t (List.mem_append_right _ (List.mem_append_right _ (List.mem_append_right _ (List.mem_of_getElem? (i := 63) (rfl : tables_1_4[63]? = some _))))) rfl
theorem gm_665 : (.instanceMethod yX3_owesAll : Cond) ∈ gG := gm_t (List.mem_append_right _ (List.mem_append_right _ (List.mem_append_right _ (List.mem_of_getElem? (i := 65) (rfl : tables_1_4[65]? = some _))))) rfl
theorem gm_666 : (.code yX3_owesAll cX3_owesAll 3 (some .int) : Cond) ∈ gG := gm_t (List.mem_append_right _ (List.mem_append_right _ (List.mem_append_right _ (List.mem_of_getElem? (i := 66) (rfl : tables_1_4[66]? = some _))))) rfl
theorem gm_667 : (.methodLink RL 113 yX3_digest : Cond) ∈ gG := gm_t (List.mem_append_right _ (List.mem_append_right _ (List.mem_append_right _ (List.mem_of_getElem? (i := 67) (rfl : tables_1_4[67]? = some _))))) rfl
theorem gm_668 : (.instanceMethod yX3_digest : Cond) ∈ gG := gm_t (List.mem_append_right _ (List.mem_append_right _ (List.mem_append_right _ (List.mem_of_getElem? (i := 68) (rfl : tables_1_4[68]? = some _))))) rfl
theorem gm_669 : (.selects RX3 yX3_digest yX3_digest : Cond) ∈ gG := gm_t (List.mem_append_right _ (List.mem_append_right _ (List.mem_append_right _ (List.mem_of_getElem? (i := 69) (rfl : tables_1_4[69]? = some _))))) rfl
theorem gm_670 : (.code yX3_digest cX3_digest 2 (some .long) : Cond) ∈ gG := gm_t (List.mem_append_right _ (List.mem_append_right _ (List.mem_append_right _ (List.mem_of_getElem? (i := 70) (rfl : tables_1_4[70]? = some _))))) rfl
theorem gm_671 : (.constantLong RX3 238 (1033 : Int64) : Cond) ∈ gG := gm_t (List.mem_append_right _ (List.mem_append_right _ (List.mem_append_right _ (List.mem_of_getElem? (i := 71) (rfl : tables_1_4[71]? = some _))))) rfl
theorem gm_672 : (.methodLink RX3 240 yX3_mixHouse : Cond) ∈ gG := gm_t (List.mem_append_right _ (List.mem_append_right _ (List.mem_append_right _ (List.mem_of_getElem? (i := 72) (rfl : tables_1_4[72]? = some _))))) rfl
theorem gm_673 : (.instanceMethod yX3_mixHouse : Cond) ∈ gG := gm_t (List.mem_append_right _ (List.mem_append_right _ (List.mem_append_right _ (List.mem_of_getElem? (i := 74) (rfl : tables_1_4[74]? = some _))))) rfl
theorem gm_674 : (.code yX3_mixHouse cX3_mixHouse 3 none : Cond) ∈ gG := gm_t (List.mem_append_right _ (List.mem_append_right _ (List.mem_append_right _ (List.mem_of_getElem? (i := 75) (rfl : tables_1_4[75]? = some _))))) rfl
theorem gm_675 : (.methodLink RX3 234 yX3_mix : Cond) ∈ gG := gm_t (List.mem_append_right _ (List.mem_append_right _ (List.mem_append_right _ (List.mem_of_getElem? (i := 76) (rfl : tables_1_4[76]? = some _))))) rfl
theorem gm_676 : (.instanceMethod yX3_mix : Cond) ∈ gG := gm_t (List.mem_append_right _ (List.mem_append_right _ (List.mem_append_right _ (List.mem_of_getElem? (i := 78) (rfl : tables_1_4[78]? = some _))))) rfl
theorem gm_677 : (.code yX3_mix cX3_mix 3 none : Cond) ∈ gG := gm_t (List.mem_append_right _ (List.mem_append_right _ (List.mem_append_right _ (List.mem_of_getElem? (i := 79) (rfl : tables_1_4[79]? = some _))))) rfl
theorem gm_678 : (.constantLong RX3 229 (31 : Int64) : Cond) ∈ gG := gm_t (List.mem_append_right _ (List.mem_append_right _ (List.mem_append_right _ (List.mem_of_getElem? (i := 80) (rfl : tables_1_4[80]? = some _))))) rfl
theorem gm_679 : (.fieldLink RJ0 9 "java/lang/String" "value" "[B" : Cond) ∈ gG := gm_t (List.mem_append_right _ (List.mem_append_right _ (List.mem_append_right _ (List.mem_of_getElem? (i := 81) (rfl : tables_1_4[81]? = some _))))) rfl
theorem gm_680 : (.fieldLink RJ0 15 "java/lang/String" "coder" "B" : Cond) ∈ gG := gm_t (List.mem_append_right _ (List.mem_append_right _ (List.mem_append_right _ (List.mem_of_getElem? (i := 82) (rfl : tables_1_4[82]? = some _))))) rfl
theorem gm_681 : (.selects RX2 yX2_housesOnPage yX2_housesOnPage : Cond) ∈ gG := gm_s (List.mem_of_getElem? (i := 0) (rfl : (k2_sels lw_privs)[0]? = some _)) rfl
theorem gm_682 : (.selects RX2 yX2_isHouse yX2_isHouse : Cond) ∈ gG := gm_s (List.mem_of_getElem? (i := 1) (rfl : (k2_sels lw_privs)[1]? = some _)) rfl
theorem gm_683 : (.selects RX2 yX2_numberNow yX2_numberNow : Cond) ∈ gG := gm_s (List.mem_of_getElem? (i := 2) (rfl : (k2_sels lw_privs)[2]? = some _)) rfl
theorem gm_684 : (.selects RX2 yX2_numberAt yX2_numberAt : Cond) ∈ gG := gm_s (List.mem_of_getElem? (i := 3) (rfl : (k2_sels lw_privs)[3]? = some _)) rfl
theorem gm_685 : (.selects RX2 yX2_owedBy yX2_owedBy : Cond) ∈ gG := gm_s (List.mem_of_getElem? (i := 4) (rfl : (k2_sels lw_privs)[4]? = some _)) rfl
theorem gm_686 : (.selects RX2 yX2_houseWith yX2_houseWith : Cond) ∈ gG := gm_s (List.mem_of_getElem? (i := 5) (rfl : (k2_sels lw_privs)[5]? = some _)) rfl
theorem gm_687 : (.selects RX2 yX2_numberOn yX2_numberOn : Cond) ∈ gG := gm_s (List.mem_of_getElem? (i := 6) (rfl : (k2_sels lw_privs)[6]? = some _)) rfl
theorem gm_688 : (.selects RX2 yX2_turnInWalk yX2_turnInWalk : Cond) ∈ gG := gm_s (List.mem_of_getElem? (i := 7) (rfl : (k2_sels lw_privs)[7]? = some _)) rfl
theorem gm_689 : (.selects RX2 yX2_bear yX2_bear : Cond) ∈ gG := gm_s (List.mem_of_getElem? (i := 8) (rfl : (k2_sels lw_privs)[8]? = some _)) rfl
theorem gm_690 : (.selects RX2 yX2_lendsACradle yX2_lendsACradle : Cond) ∈ gG := gm_s (List.mem_of_getElem? (i := 9) (rfl : (k2_sels lw_privs)[9]? = some _)) rfl
theorem gm_691 : (.selects RX2 yX2_growOlder yX2_growOlder : Cond) ∈ gG := gm_s (List.mem_of_getElem? (i := 10) (rfl : (k2_sels lw_privs)[10]? = some _)) rfl
theorem gm_692 : (.selects RX2 yX2_isDay yX2_isDay : Cond) ∈ gG := gm_s (List.mem_of_getElem? (i := 11) (rfl : (k2_sels lw_privs)[11]? = some _)) rfl
theorem gm_693 : (.selects RX2 yX2_lengthOfWalk yX2_lengthOfWalk : Cond) ∈ gG := gm_s (List.mem_of_getElem? (i := 12) (rfl : (k2_sels lw_privs)[12]? = some _)) rfl
theorem gm_694 : (.selects RX2 yX2_houseOfTurn yX2_houseOfTurn : Cond) ∈ gG := gm_s (List.mem_of_getElem? (i := 13) (rfl : (k2_sels lw_privs)[13]? = some _)) rfl
theorem gm_695 : (.selects RX2 yX2_cheapestSet yX2_cheapestSet : Cond) ∈ gG := gm_s (List.mem_of_getElem? (i := 14) (rfl : (k2_sels lw_privs)[14]? = some _)) rfl
theorem gm_696 : (.selects RX2 yX2_mayAllBear yX2_mayAllBear : Cond) ∈ gG := gm_s (List.mem_of_getElem? (i := 15) (rfl : (k2_sels lw_privs)[15]? = some _)) rfl
theorem gm_697 : (.selects RX2 yX2_numbersBy yX2_numbersBy : Cond) ∈ gG := gm_s (List.mem_of_getElem? (i := 16) (rfl : (k2_sels lw_privs)[16]? = some _)) rfl
theorem gm_698 : (.selects RX2 yX2_allNumbers yX2_allNumbers : Cond) ∈ gG := gm_s (List.mem_of_getElem? (i := 17) (rfl : (k2_sels lw_privs)[17]? = some _)) rfl
theorem gm_699 : (.selects RX2 yX2_canHaveBeen yX2_canHaveBeen : Cond) ∈ gG := gm_s (List.mem_of_getElem? (i := 18) (rfl : (k2_sels lw_privs)[18]? = some _)) rfl
theorem gm_700 : (.selects RX2 yX2_markPossibleDays yX2_markPossibleDays : Cond) ∈ gG := gm_s (List.mem_of_getElem? (i := 19) (rfl : (k2_sels lw_privs)[19]? = some _)) rfl
theorem gm_701 : (.selects RX2 yX2_mostLeftBy yX2_mostLeftBy : Cond) ∈ gG := gm_s (List.mem_of_getElem? (i := 20) (rfl : (k2_sels lw_privs)[20]? = some _)) rfl
theorem gm_702 : (.selects RX2 yX2_drawnHouse yX2_drawnHouse : Cond) ∈ gG := gm_s (List.mem_of_getElem? (i := 21) (rfl : (k2_sels lw_privs)[21]? = some _)) rfl
theorem gm_703 : (.selects RX2 yX2_bearIfMayBe yX2_bearIfMayBe : Cond) ∈ gG := gm_s (List.mem_of_getElem? (i := 22) (rfl : (k2_sels lw_privs)[22]? = some _)) rfl
theorem gm_704 : (.selects RX2 yX2_unlikeNumbers yX2_unlikeNumbers : Cond) ∈ gG := gm_s (List.mem_of_getElem? (i := 23) (rfl : (k2_sels lw_privs)[23]? = some _)) rfl
theorem gm_705 : (.selects RX2 yX2_owedByAll yX2_owedByAll : Cond) ∈ gG := gm_s (List.mem_of_getElem? (i := 24) (rfl : (k2_sels lw_privs)[24]? = some _)) rfl
theorem gm_706 : (.selects RX2 yX2_withHouse yX2_withHouse : Cond) ∈ gG := gm_s (List.mem_of_getElem? (i := 25) (rfl : (k2_sels lw_privs)[25]? = some _)) rfl
theorem gm_707 : (.selects RX3 yX3_faultNow yX3_faultNow : Cond) ∈ gG := gm_s (List.mem_of_getElem? (i := 26) (rfl : (k2_sels lw_privs)[26]? = some _)) rfl
theorem gm_708 : (.selects RX3 yX3_isGood yX3_isGood : Cond) ∈ gG := gm_s (List.mem_of_getElem? (i := 27) (rfl : (k2_sels lw_privs)[27]? = some _)) rfl
theorem gm_709 : (.selects RX3 yX3_isHouse yX3_isHouse : Cond) ∈ gG := gm_s (List.mem_of_getElem? (i := 28) (rfl : (k2_sels lw_privs)[28]? = some _)) rfl
theorem gm_710 : (.selects RX3 yX3_houseNow yX3_houseNow : Cond) ∈ gG := gm_s (List.mem_of_getElem? (i := 29) (rfl : (k2_sels lw_privs)[29]? = some _)) rfl
theorem gm_711 : (.selects RX3 yX3_number yX3_number : Cond) ∈ gG := gm_s (List.mem_of_getElem? (i := 30) (rfl : (k2_sels lw_privs)[30]? = some _)) rfl
theorem gm_712 : (.selects RX3 yX3_numberBy yX3_numberBy : Cond) ∈ gG := gm_s (List.mem_of_getElem? (i := 31) (rfl : (k2_sels lw_privs)[31]? = some _)) rfl
theorem gm_713 : (.selects RX3 yX3_owes yX3_owes : Cond) ∈ gG := gm_s (List.mem_of_getElem? (i := 32) (rfl : (k2_sels lw_privs)[32]? = some _)) rfl
theorem gm_714 : (.selects RX3 yX3_houseOf yX3_houseOf : Cond) ∈ gG := gm_s (List.mem_of_getElem? (i := 33) (rfl : (k2_sels lw_privs)[33]? = some _)) rfl
theorem gm_715 : (.selects RX3 yX3_numberOn yX3_numberOn : Cond) ∈ gG := gm_s (List.mem_of_getElem? (i := 34) (rfl : (k2_sels lw_privs)[34]? = some _)) rfl
theorem gm_716 : (.selects RX3 yX3_orderOf yX3_orderOf : Cond) ∈ gG := gm_s (List.mem_of_getElem? (i := 35) (rfl : (k2_sels lw_privs)[35]? = some _)) rfl
theorem gm_717 : (.selects RX3 yX3_mayBirth yX3_mayBirth : Cond) ∈ gG := gm_s (List.mem_of_getElem? (i := 36) (rfl : (k2_sels lw_privs)[36]? = some _)) rfl
theorem gm_718 : (.selects RX3 yX3_ageNone yX3_ageNone : Cond) ∈ gG := gm_s (List.mem_of_getElem? (i := 37) (rfl : (k2_sels lw_privs)[37]? = some _)) rfl
theorem gm_719 : (.selects RX3 yX3_lends yX3_lends : Cond) ∈ gG := gm_s (List.mem_of_getElem? (i := 38) (rfl : (k2_sels lw_privs)[38]? = some _)) rfl
theorem gm_720 : (.selects RX3 yX3_ageMore yX3_ageMore : Cond) ∈ gG := gm_s (List.mem_of_getElem? (i := 39) (rfl : (k2_sels lw_privs)[39]? = some _)) rfl
theorem gm_721 : (.selects RX3 yX3_isDay yX3_isDay : Cond) ∈ gG := gm_s (List.mem_of_getElem? (i := 40) (rfl : (k2_sels lw_privs)[40]? = some _)) rfl
theorem gm_722 : (.selects RX3 yX3_walkNow yX3_walkNow : Cond) ∈ gG := gm_s (List.mem_of_getElem? (i := 41) (rfl : (k2_sels lw_privs)[41]? = some _)) rfl
theorem gm_723 : (.selects RX3 yX3_cheapNow yX3_cheapNow : Cond) ∈ gG := gm_s (List.mem_of_getElem? (i := 42) (rfl : (k2_sels lw_privs)[42]? = some _)) rfl
theorem gm_724 : (.selects RX3 yX3_save yX3_save : Cond) ∈ gG := gm_s (List.mem_of_getElem? (i := 43) (rfl : (k2_sels lw_privs)[43]? = some _)) rfl
theorem gm_725 : (.selects RX3 yX3_numbersBy yX3_numbersBy : Cond) ∈ gG := gm_s (List.mem_of_getElem? (i := 44) (rfl : (k2_sels lw_privs)[44]? = some _)) rfl
theorem gm_726 : (.selects RX3 yX3_numbersAll yX3_numbersAll : Cond) ∈ gG := gm_s (List.mem_of_getElem? (i := 45) (rfl : (k2_sels lw_privs)[45]? = some _)) rfl
theorem gm_727 : (.selects RX3 yX3_load yX3_load : Cond) ∈ gG := gm_s (List.mem_of_getElem? (i := 46) (rfl : (k2_sels lw_privs)[46]? = some _)) rfl
theorem gm_728 : (.selects RX3 yX3_whenNow yX3_whenNow : Cond) ∈ gG := gm_s (List.mem_of_getElem? (i := 47) (rfl : (k2_sels lw_privs)[47]? = some _)) rfl
theorem gm_729 : (.selects RX3 yX3_daysNow yX3_daysNow : Cond) ∈ gG := gm_s (List.mem_of_getElem? (i := 48) (rfl : (k2_sels lw_privs)[48]? = some _)) rfl
theorem gm_730 : (.selects RX3 yX3_isHeard yX3_isHeard : Cond) ∈ gG := gm_s (List.mem_of_getElem? (i := 49) (rfl : (k2_sels lw_privs)[49]? = some _)) rfl
theorem gm_731 : (.selects RX3 yX3_askNow yX3_askNow : Cond) ∈ gG := gm_s (List.mem_of_getElem? (i := 50) (rfl : (k2_sels lw_privs)[50]? = some _)) rfl
theorem gm_732 : (.selects RX3 yX3_worstOf yX3_worstOf : Cond) ∈ gG := gm_s (List.mem_of_getElem? (i := 51) (rfl : (k2_sels lw_privs)[51]? = some _)) rfl
theorem gm_733 : (.selects RX3 yX3_yearsNow yX3_yearsNow : Cond) ∈ gG := gm_s (List.mem_of_getElem? (i := 52) (rfl : (k2_sels lw_privs)[52]? = some _)) rfl
theorem gm_734 : (.selects RX3 yX3_draw yX3_draw : Cond) ∈ gG := gm_s (List.mem_of_getElem? (i := 53) (rfl : (k2_sels lw_privs)[53]? = some _)) rfl
theorem gm_735 : (.selects RX3 yX3_howMany yX3_howMany : Cond) ∈ gG := gm_s (List.mem_of_getElem? (i := 54) (rfl : (k2_sels lw_privs)[54]? = some _)) rfl
theorem gm_736 : (.selects RX3 yX3_unlike yX3_unlike : Cond) ∈ gG := gm_s (List.mem_of_getElem? (i := 55) (rfl : (k2_sels lw_privs)[55]? = some _)) rfl
theorem gm_737 : (.selects RX3 yX3_owesAll yX3_owesAll : Cond) ∈ gG := gm_s (List.mem_of_getElem? (i := 56) (rfl : (k2_sels lw_privs)[56]? = some _)) rfl
theorem gm_738 : (.selects RX3 yX3_mixHouse yX3_mixHouse : Cond) ∈ gG := gm_s (List.mem_of_getElem? (i := 57) (rfl : (k2_sels lw_privs)[57]? = some _)) rfl
theorem gm_739 : (.selects RX3 yX3_mix yX3_mix : Cond) ∈ gG := gm_s (List.mem_of_getElem? (i := 58) (rfl : (k2_sels lw_privs)[58]? = some _)) rfl
theorem us_X0 : ∀ w ∈ u_ws RX0 TX0 11, w ∈ gG := by
  intro w hw
  obtain ⟨k, hk, rfl⟩ := List.mem_map.mp hw
  have hk := List.mem_range.mp hk
  match k, hk with
  | 0, _ => exact gm_59
  | 1, _ => exact gm_60
  | 2, _ => exact gm_61
  | 3, _ => exact gm_62
  | 4, _ => exact gm_63
  | 5, _ => exact gm_64
  | 6, _ => exact gm_65
  | 7, _ => exact gm_66
  | 8, _ => exact gm_67
  | 9, _ => exact gm_68
  | 10, _ => exact gm_69
  | k + 11, h => exact absurd h (by omega)
theorem us_X1 : ∀ w ∈ u_ws RX1 TX1 1, w ∈ gG := by
  intro w hw
  obtain ⟨k, hk, rfl⟩ := List.mem_map.mp hw
  have hk := List.mem_range.mp hk
  match k, hk with
  | 0, _ => exact gm_27
  | k + 1, h => exact absurd h (by omega)
theorem us_X2 : ∀ w ∈ u_ws RX2 TX2 11, w ∈ gG := by
  intro w hw
  obtain ⟨k, hk, rfl⟩ := List.mem_map.mp hw
  have hk := List.mem_range.mp hk
  match k, hk with
  | 0, _ => exact gm_81
  | 1, _ => exact gm_82
  | 2, _ => exact gm_83
  | 3, _ => exact gm_84
  | 4, _ => exact gm_85
  | 5, _ => exact gm_86
  | 6, _ => exact gm_87
  | 7, _ => exact gm_88
  | 8, _ => exact gm_89
  | 9, _ => exact gm_90
  | 10, _ => exact gm_91
  | k + 11, h => exact absurd h (by omega)
theorem us_X3 : ∀ w ∈ u_ws RX3 TX3 32, w ∈ gG := by
  intro w hw
  obtain ⟨k, hk, rfl⟩ := List.mem_map.mp hw
  have hk := List.mem_range.mp hk
  match k, hk with
  | 0, _ => exact gm_433
  | 1, _ => exact gm_434
  | 2, _ => exact gm_435
  | 3, _ => exact gm_436
  | 4, _ => exact gm_437
  | 5, _ => exact gm_438
  | 6, _ => exact gm_439
  | 7, _ => exact gm_440
  | 8, _ => exact gm_441
  | 9, _ => exact gm_442
  | 10, _ => exact gm_443
  | 11, _ => exact gm_444
  | 12, _ => exact gm_445
  | 13, _ => exact gm_446
  | 14, _ => exact gm_447
  | 15, _ => exact gm_448
  | 16, _ => exact gm_449
  | 17, _ => exact gm_450
  | 18, _ => exact gm_451
  | 19, _ => exact gm_452
  | 20, _ => exact gm_453
  | 21, _ => exact gm_454
  | 22, _ => exact gm_455
  | 23, _ => exact gm_456
  | 24, _ => exact gm_457
  | 25, _ => exact gm_458
  | 26, _ => exact gm_459
  | 27, _ => exact gm_460
  | 28, _ => exact gm_461
  | 29, _ => exact gm_462
  | 30, _ => exact gm_463
  | 31, _ => exact gm_464
  | k + 32, h => exact absurd h (by omega)
end
section
theorem dX0_init_0 : decode cX0_init 0 = .ok (.aload_n 0, 1) := by decide +kernel
theorem dX0_init_1 : decode cX0_init 1 = .ok (.invokespecial 3, 3) := by decide +kernel
theorem dX0_init_4 : decode cX0_init 4 = .ok (.aload_n 0, 1) := by decide +kernel
theorem dX0_init_5 : decode cX0_init 5 = .ok (.iconst 0, 1) := by decide +kernel
theorem dX0_init_6 : decode cX0_init 6 = .ok (.putfield 9, 3) := by decide +kernel
theorem dX0_init_9 : decode cX0_init 9 = .ok (.aload_n 0, 1) := by decide +kernel
theorem dX0_init_10 : decode cX0_init 10 = .ok (.iconst 0, 1) := by decide +kernel
theorem dX0_init_11 : decode cX0_init 11 = .ok (.putfield 15, 3) := by decide +kernel
theorem dX0_init_14 : decode cX0_init 14 = .ok (.aload_n 0, 1) := by decide +kernel
theorem dX0_init_15 : decode cX0_init 15 = .ok (.iconst 0, 1) := by decide +kernel
theorem dX0_init_16 : decode cX0_init 16 = .ok (.putfield 18, 3) := by decide +kernel
theorem dX0_init_19 : decode cX0_init 19 = .ok (.aload_n 0, 1) := by decide +kernel
theorem dX0_init_20 : decode cX0_init 20 = .ok (.iconst 0, 1) := by decide +kernel
theorem dX0_init_21 : decode cX0_init 21 = .ok (.putfield 21, 3) := by decide +kernel
theorem dX0_init_24 : decode cX0_init 24 = .ok (.aload_n 0, 1) := by decide +kernel
theorem dX0_init_25 : decode cX0_init 25 = .ok (.new 24, 3) := by decide +kernel
theorem dX0_init_28 : decode cX0_init 28 = .ok (.dup, 1) := by decide +kernel
theorem dX0_init_29 : decode cX0_init 29 = .ok (.bipush 6, 2) := by decide +kernel
theorem dX0_init_31 : decode cX0_init 31 = .ok (.invokespecial 26, 3) := by decide +kernel
theorem dX0_init_34 : decode cX0_init 34 = .ok (.putfield 29, 3) := by decide +kernel
theorem dX0_init_37 : decode cX0_init 37 = .ok (.aload_n 0, 1) := by decide +kernel
theorem dX0_init_38 : decode cX0_init 38 = .ok (.new 24, 3) := by decide +kernel
theorem dX0_init_41 : decode cX0_init 41 = .ok (.dup, 1) := by decide +kernel
theorem dX0_init_42 : decode cX0_init 42 = .ok (.sipush 180, 3) := by decide +kernel
theorem dX0_init_45 : decode cX0_init 45 = .ok (.invokespecial 26, 3) := by decide +kernel
theorem dX0_init_48 : decode cX0_init 48 = .ok (.putfield 33, 3) := by decide +kernel
theorem dX0_init_51 : decode cX0_init 51 = .ok (.aload_n 0, 1) := by decide +kernel
theorem dX0_init_52 : decode cX0_init 52 = .ok (.new 24, 3) := by decide +kernel
theorem dX0_init_55 : decode cX0_init 55 = .ok (.dup, 1) := by decide +kernel
theorem dX0_init_56 : decode cX0_init 56 = .ok (.bipush 6, 2) := by decide +kernel
theorem dX0_init_58 : decode cX0_init 58 = .ok (.invokespecial 26, 3) := by decide +kernel
theorem dX0_init_61 : decode cX0_init 61 = .ok (.putfield 36, 3) := by decide +kernel
theorem dX0_init_64 : decode cX0_init 64 = .ok (.aload_n 0, 1) := by decide +kernel
theorem dX0_init_65 : decode cX0_init 65 = .ok (.new 24, 3) := by decide +kernel
theorem dX0_init_68 : decode cX0_init 68 = .ok (.dup, 1) := by decide +kernel
theorem dX0_init_69 : decode cX0_init 69 = .ok (.bipush 6, 2) := by decide +kernel
theorem dX0_init_71 : decode cX0_init 71 = .ok (.invokespecial 26, 3) := by decide +kernel
theorem dX0_init_74 : decode cX0_init 74 = .ok (.putfield 39, 3) := by decide +kernel
theorem dX0_init_77 : decode cX0_init 77 = .ok (.aload_n 0, 1) := by decide +kernel
theorem dX0_init_78 : decode cX0_init 78 = .ok (.new 24, 3) := by decide +kernel
theorem dX0_init_81 : decode cX0_init 81 = .ok (.dup, 1) := by decide +kernel
theorem dX0_init_82 : decode cX0_init 82 = .ok (.bipush 6, 2) := by decide +kernel
theorem dX0_init_84 : decode cX0_init 84 = .ok (.invokespecial 26, 3) := by decide +kernel
theorem dX0_init_87 : decode cX0_init 87 = .ok (.putfield 42, 3) := by decide +kernel
theorem dX0_init_90 : decode cX0_init 90 = .ok (.aload_n 0, 1) := by decide +kernel
theorem dX0_init_91 : decode cX0_init 91 = .ok (.new 24, 3) := by decide +kernel
theorem dX0_init_94 : decode cX0_init 94 = .ok (.dup, 1) := by decide +kernel
theorem dX0_init_95 : decode cX0_init 95 = .ok (.bipush 6, 2) := by decide +kernel
theorem dX0_init_97 : decode cX0_init 97 = .ok (.invokespecial 26, 3) := by decide +kernel
theorem dX0_init_100 : decode cX0_init 100 = .ok (.putfield 45, 3) := by decide +kernel
theorem dX0_init_103 : decode cX0_init 103 = .ok (.aload_n 0, 1) := by decide +kernel
theorem dX0_init_104 : decode cX0_init 104 = .ok (.new 24, 3) := by decide +kernel
theorem dX0_init_107 : decode cX0_init 107 = .ok (.dup, 1) := by decide +kernel
theorem dX0_init_108 : decode cX0_init 108 = .ok (.bipush 6, 2) := by decide +kernel
theorem dX0_init_110 : decode cX0_init 110 = .ok (.invokespecial 26, 3) := by decide +kernel
theorem dX0_init_113 : decode cX0_init 113 = .ok (.putfield 48, 3) := by decide +kernel
theorem dX0_init_116 : decode cX0_init 116 = .ok (.return_, 1) := by decide +kernel
theorem dX0_startAnew_0 : decode cX0_startAnew 0 = .ok (.aload_n 0, 1) := by decide +kernel
theorem dX0_startAnew_1 : decode cX0_startAnew 1 = .ok (.iconst 0, 1) := by decide +kernel
theorem dX0_startAnew_2 : decode cX0_startAnew 2 = .ok (.putfield 9, 3) := by decide +kernel
theorem dX0_startAnew_5 : decode cX0_startAnew 5 = .ok (.aload_n 0, 1) := by decide +kernel
theorem dX0_startAnew_6 : decode cX0_startAnew 6 = .ok (.iconst 0, 1) := by decide +kernel
theorem dX0_startAnew_7 : decode cX0_startAnew 7 = .ok (.putfield 15, 3) := by decide +kernel
theorem dX0_startAnew_10 : decode cX0_startAnew 10 = .ok (.aload_n 0, 1) := by decide +kernel
theorem dX0_startAnew_11 : decode cX0_startAnew 11 = .ok (.iconst 0, 1) := by decide +kernel
theorem dX0_startAnew_12 : decode cX0_startAnew 12 = .ok (.putfield 18, 3) := by decide +kernel
theorem dX0_startAnew_15 : decode cX0_startAnew 15 = .ok (.aload_n 0, 1) := by decide +kernel
theorem dX0_startAnew_16 : decode cX0_startAnew 16 = .ok (.iconst 0, 1) := by decide +kernel
theorem dX0_startAnew_17 : decode cX0_startAnew 17 = .ok (.putfield 21, 3) := by decide +kernel
theorem dX0_startAnew_20 : decode cX0_startAnew 20 = .ok (.aload_n 0, 1) := by decide +kernel
theorem dX0_startAnew_21 : decode cX0_startAnew 21 = .ok (.getfield 36, 3) := by decide +kernel
theorem dX0_startAnew_24 : decode cX0_startAnew 24 = .ok (.invokevirtual 51, 3) := by decide +kernel
theorem dX0_startAnew_27 : decode cX0_startAnew 27 = .ok (.return_, 1) := by decide +kernel
theorem dX0_take_0 : decode cX0_take 0 = .ok (.aload_n 0, 1) := by decide +kernel
theorem dX0_take_1 : decode cX0_take 1 = .ok (.aload_n 1, 1) := by decide +kernel
theorem dX0_take_2 : decode cX0_take 2 = .ok (.getfield 9, 3) := by decide +kernel
theorem dX0_take_5 : decode cX0_take 5 = .ok (.putfield 9, 3) := by decide +kernel
theorem dX0_take_8 : decode cX0_take 8 = .ok (.aload_n 0, 1) := by decide +kernel
theorem dX0_take_9 : decode cX0_take 9 = .ok (.aload_n 1, 1) := by decide +kernel
theorem dX0_take_10 : decode cX0_take 10 = .ok (.getfield 15, 3) := by decide +kernel
theorem dX0_take_13 : decode cX0_take 13 = .ok (.putfield 15, 3) := by decide +kernel
theorem dX0_take_16 : decode cX0_take 16 = .ok (.aload_n 0, 1) := by decide +kernel
theorem dX0_take_17 : decode cX0_take 17 = .ok (.aload_n 1, 1) := by decide +kernel
theorem dX0_take_18 : decode cX0_take 18 = .ok (.getfield 18, 3) := by decide +kernel
theorem dX0_take_21 : decode cX0_take 21 = .ok (.putfield 18, 3) := by decide +kernel
theorem dX0_take_24 : decode cX0_take 24 = .ok (.aload_n 0, 1) := by decide +kernel
theorem dX0_take_25 : decode cX0_take 25 = .ok (.aload_n 1, 1) := by decide +kernel
theorem dX0_take_26 : decode cX0_take 26 = .ok (.getfield 21, 3) := by decide +kernel
theorem dX0_take_29 : decode cX0_take 29 = .ok (.putfield 21, 3) := by decide +kernel
theorem dX0_take_32 : decode cX0_take 32 = .ok (.aload_n 0, 1) := by decide +kernel
theorem dX0_take_33 : decode cX0_take 33 = .ok (.getfield 29, 3) := by decide +kernel
theorem dX0_take_36 : decode cX0_take 36 = .ok (.aload_n 1, 1) := by decide +kernel
theorem dX0_take_37 : decode cX0_take 37 = .ok (.getfield 29, 3) := by decide +kernel
theorem dX0_take_40 : decode cX0_take 40 = .ok (.invokevirtual 54, 3) := by decide +kernel
theorem dX0_take_43 : decode cX0_take 43 = .ok (.aload_n 0, 1) := by decide +kernel
theorem dX0_take_44 : decode cX0_take 44 = .ok (.getfield 33, 3) := by decide +kernel
theorem dX0_take_47 : decode cX0_take 47 = .ok (.aload_n 1, 1) := by decide +kernel
theorem dX0_take_48 : decode cX0_take 48 = .ok (.getfield 33, 3) := by decide +kernel
theorem dX0_take_51 : decode cX0_take 51 = .ok (.invokevirtual 54, 3) := by decide +kernel
theorem dX0_take_54 : decode cX0_take 54 = .ok (.aload_n 0, 1) := by decide +kernel
theorem dX0_take_55 : decode cX0_take 55 = .ok (.getfield 36, 3) := by decide +kernel
theorem dX0_take_58 : decode cX0_take 58 = .ok (.aload_n 1, 1) := by decide +kernel
theorem dX0_take_59 : decode cX0_take 59 = .ok (.getfield 36, 3) := by decide +kernel
theorem dX0_take_62 : decode cX0_take 62 = .ok (.invokevirtual 54, 3) := by decide +kernel
theorem dX0_take_65 : decode cX0_take 65 = .ok (.aload_n 0, 1) := by decide +kernel
theorem dX0_take_66 : decode cX0_take 66 = .ok (.getfield 39, 3) := by decide +kernel
theorem dX0_take_69 : decode cX0_take 69 = .ok (.aload_n 1, 1) := by decide +kernel
theorem dX0_take_70 : decode cX0_take 70 = .ok (.getfield 39, 3) := by decide +kernel
theorem dX0_take_73 : decode cX0_take 73 = .ok (.invokevirtual 54, 3) := by decide +kernel
theorem dX0_take_76 : decode cX0_take 76 = .ok (.aload_n 0, 1) := by decide +kernel
theorem dX0_take_77 : decode cX0_take 77 = .ok (.getfield 42, 3) := by decide +kernel
theorem dX0_take_80 : decode cX0_take 80 = .ok (.aload_n 1, 1) := by decide +kernel
theorem dX0_take_81 : decode cX0_take 81 = .ok (.getfield 42, 3) := by decide +kernel
theorem dX0_take_84 : decode cX0_take 84 = .ok (.invokevirtual 54, 3) := by decide +kernel
theorem dX0_take_87 : decode cX0_take 87 = .ok (.aload_n 0, 1) := by decide +kernel
theorem dX0_take_88 : decode cX0_take 88 = .ok (.getfield 45, 3) := by decide +kernel
theorem dX0_take_91 : decode cX0_take 91 = .ok (.aload_n 1, 1) := by decide +kernel
theorem dX0_take_92 : decode cX0_take 92 = .ok (.getfield 45, 3) := by decide +kernel
theorem dX0_take_95 : decode cX0_take 95 = .ok (.invokevirtual 54, 3) := by decide +kernel
theorem dX0_take_98 : decode cX0_take 98 = .ok (.aload_n 0, 1) := by decide +kernel
theorem dX0_take_99 : decode cX0_take 99 = .ok (.getfield 48, 3) := by decide +kernel
theorem dX0_take_102 : decode cX0_take 102 = .ok (.aload_n 1, 1) := by decide +kernel
theorem dX0_take_103 : decode cX0_take 103 = .ok (.getfield 48, 3) := by decide +kernel
theorem dX0_take_106 : decode cX0_take 106 = .ok (.invokevirtual 54, 3) := by decide +kernel
theorem dX0_take_109 : decode cX0_take 109 = .ok (.return_, 1) := by decide +kernel
theorem dX1_init_0 : decode cX1_init 0 = .ok (.aload_n 0, 1) := by decide +kernel
theorem dX1_init_1 : decode cX1_init 1 = .ok (.invokespecial 1, 3) := by decide +kernel
theorem dX1_init_4 : decode cX1_init 4 = .ok (.aload_n 0, 1) := by decide +kernel
theorem dX1_init_5 : decode cX1_init 5 = .ok (.iload_n 1, 1) := by decide +kernel
theorem dX1_init_6 : decode cX1_init 6 = .ok (.ifCond .ge 7, 3) := by decide +kernel
theorem dX1_init_9 : decode cX1_init 9 = .ok (.iconst 0, 1) := by decide +kernel
theorem dX1_init_10 : decode cX1_init 10 = .ok (.goto 4, 3) := by decide +kernel
theorem dX1_init_13 : decode cX1_init 13 = .ok (.iload_n 1, 1) := by decide +kernel
theorem dX1_init_14 : decode cX1_init 14 = .ok (.newarray .int, 2) := by decide +kernel
theorem dX1_init_16 : decode cX1_init 16 = .ok (.putfield 7, 3) := by decide +kernel
theorem dX1_init_19 : decode cX1_init 19 = .ok (.return_, 1) := by decide +kernel
theorem dX1_at_0 : decode cX1_at 0 = .ok (.iload_n 1, 1) := by decide +kernel
theorem dX1_at_1 : decode cX1_at 1 = .ok (.ifCond .lt 21, 3) := by decide +kernel
theorem dX1_at_4 : decode cX1_at 4 = .ok (.iload_n 1, 1) := by decide +kernel
theorem dX1_at_5 : decode cX1_at 5 = .ok (.aload_n 0, 1) := by decide +kernel
theorem dX1_at_6 : decode cX1_at 6 = .ok (.getfield 7, 3) := by decide +kernel
theorem dX1_at_9 : decode cX1_at 9 = .ok (.arraylength, 1) := by decide +kernel
theorem dX1_at_10 : decode cX1_at 10 = .ok (.if_icmp .ge 12, 3) := by decide +kernel
theorem dX1_at_13 : decode cX1_at 13 = .ok (.aload_n 0, 1) := by decide +kernel
theorem dX1_at_14 : decode cX1_at 14 = .ok (.getfield 7, 3) := by decide +kernel
theorem dX1_at_17 : decode cX1_at 17 = .ok (.iload_n 1, 1) := by decide +kernel
theorem dX1_at_18 : decode cX1_at 18 = .ok (.iaload, 1) := by decide +kernel
theorem dX1_at_19 : decode cX1_at 19 = .ok (.goto 4, 3) := by decide +kernel
theorem dX1_at_22 : decode cX1_at 22 = .ok (.iconst 0, 1) := by decide +kernel
theorem dX1_at_23 : decode cX1_at 23 = .ok (.ireturn, 1) := by decide +kernel
theorem dX1_put_0 : decode cX1_put 0 = .ok (.iload_n 1, 1) := by decide +kernel
theorem dX1_put_1 : decode cX1_put 1 = .ok (.ifCond .lt 19, 3) := by decide +kernel
theorem dX1_put_4 : decode cX1_put 4 = .ok (.iload_n 1, 1) := by decide +kernel
theorem dX1_put_5 : decode cX1_put 5 = .ok (.aload_n 0, 1) := by decide +kernel
theorem dX1_put_6 : decode cX1_put 6 = .ok (.getfield 7, 3) := by decide +kernel
theorem dX1_put_9 : decode cX1_put 9 = .ok (.arraylength, 1) := by decide +kernel
theorem dX1_put_10 : decode cX1_put 10 = .ok (.if_icmp .ge 10, 3) := by decide +kernel
theorem dX1_put_13 : decode cX1_put 13 = .ok (.aload_n 0, 1) := by decide +kernel
theorem dX1_put_14 : decode cX1_put 14 = .ok (.getfield 7, 3) := by decide +kernel
theorem dX1_put_17 : decode cX1_put 17 = .ok (.iload_n 1, 1) := by decide +kernel
theorem dX1_put_18 : decode cX1_put 18 = .ok (.iload_n 2, 1) := by decide +kernel
theorem dX1_put_19 : decode cX1_put 19 = .ok (.iastore, 1) := by decide +kernel
theorem dX1_put_20 : decode cX1_put 20 = .ok (.return_, 1) := by decide +kernel
theorem dX1_add_0 : decode cX1_add 0 = .ok (.aload_n 0, 1) := by decide +kernel
theorem dX1_add_1 : decode cX1_add 1 = .ok (.iload_n 1, 1) := by decide +kernel
theorem dX1_add_2 : decode cX1_add 2 = .ok (.aload_n 0, 1) := by decide +kernel
theorem dX1_add_3 : decode cX1_add 3 = .ok (.iload_n 1, 1) := by decide +kernel
theorem dX1_add_4 : decode cX1_add 4 = .ok (.invokevirtual 13, 3) := by decide +kernel
theorem dX1_add_7 : decode cX1_add 7 = .ok (.iload_n 2, 1) := by decide +kernel
theorem dX1_add_8 : decode cX1_add 8 = .ok (.iadd, 1) := by decide +kernel
theorem dX1_add_9 : decode cX1_add 9 = .ok (.invokevirtual 17, 3) := by decide +kernel
theorem dX1_add_12 : decode cX1_add 12 = .ok (.return_, 1) := by decide +kernel
theorem dX1_clear_0 : decode cX1_clear 0 = .ok (.iconst 0, 1) := by decide +kernel
theorem dX1_clear_1 : decode cX1_clear 1 = .ok (.istore_n 1, 1) := by decide +kernel
theorem dX1_clear_2 : decode cX1_clear 2 = .ok (.iload_n 1, 1) := by decide +kernel
theorem dX1_clear_3 : decode cX1_clear 3 = .ok (.aload_n 0, 1) := by decide +kernel
theorem dX1_clear_4 : decode cX1_clear 4 = .ok (.getfield 7, 3) := by decide +kernel
theorem dX1_clear_7 : decode cX1_clear 7 = .ok (.arraylength, 1) := by decide +kernel
theorem dX1_clear_8 : decode cX1_clear 8 = .ok (.if_icmp .ge 16, 3) := by decide +kernel
theorem dX1_clear_11 : decode cX1_clear 11 = .ok (.aload_n 0, 1) := by decide +kernel
theorem dX1_clear_12 : decode cX1_clear 12 = .ok (.getfield 7, 3) := by decide +kernel
theorem dX1_clear_15 : decode cX1_clear 15 = .ok (.iload_n 1, 1) := by decide +kernel
theorem dX1_clear_16 : decode cX1_clear 16 = .ok (.iconst 0, 1) := by decide +kernel
theorem dX1_clear_17 : decode cX1_clear 17 = .ok (.iastore, 1) := by decide +kernel
theorem dX1_clear_18 : decode cX1_clear 18 = .ok (.iinc 1 1, 3) := by decide +kernel
theorem dX1_clear_21 : decode cX1_clear 21 = .ok (.goto (-19), 3) := by decide +kernel
theorem dX1_clear_24 : decode cX1_clear 24 = .ok (.return_, 1) := by decide +kernel
theorem dX1_take_0 : decode cX1_take 0 = .ok (.iconst 0, 1) := by decide +kernel
theorem dX1_take_1 : decode cX1_take 1 = .ok (.istore_n 2, 1) := by decide +kernel
theorem dX1_take_2 : decode cX1_take 2 = .ok (.iload_n 2, 1) := by decide +kernel
theorem dX1_take_3 : decode cX1_take 3 = .ok (.aload_n 0, 1) := by decide +kernel
theorem dX1_take_4 : decode cX1_take 4 = .ok (.getfield 7, 3) := by decide +kernel
theorem dX1_take_7 : decode cX1_take 7 = .ok (.arraylength, 1) := by decide +kernel
theorem dX1_take_8 : decode cX1_take 8 = .ok (.if_icmp .ge 20, 3) := by decide +kernel
theorem dX1_take_11 : decode cX1_take 11 = .ok (.aload_n 0, 1) := by decide +kernel
theorem dX1_take_12 : decode cX1_take 12 = .ok (.getfield 7, 3) := by decide +kernel
theorem dX1_take_15 : decode cX1_take 15 = .ok (.iload_n 2, 1) := by decide +kernel
theorem dX1_take_16 : decode cX1_take 16 = .ok (.aload_n 1, 1) := by decide +kernel
theorem dX1_take_17 : decode cX1_take 17 = .ok (.iload_n 2, 1) := by decide +kernel
theorem dX1_take_18 : decode cX1_take 18 = .ok (.invokevirtual 13, 3) := by decide +kernel
theorem dX1_take_21 : decode cX1_take 21 = .ok (.iastore, 1) := by decide +kernel
theorem dX1_take_22 : decode cX1_take 22 = .ok (.iinc 2 1, 3) := by decide +kernel
theorem dX1_take_25 : decode cX1_take 25 = .ok (.goto (-23), 3) := by decide +kernel
theorem dX1_take_28 : decode cX1_take 28 = .ok (.return_, 1) := by decide +kernel
theorem dX2_init_0 : decode cX2_init 0 = .ok (.aload_n 0, 1) := by decide +kernel
theorem dX2_init_1 : decode cX2_init 1 = .ok (.invokespecial 3, 3) := by decide +kernel
theorem dX2_init_4 : decode cX2_init 4 = .ok (.aload_n 0, 1) := by decide +kernel
theorem dX2_init_5 : decode cX2_init 5 = .ok (.new 9, 3) := by decide +kernel
theorem dX2_init_8 : decode cX2_init 8 = .ok (.dup, 1) := by decide +kernel
theorem dX2_init_9 : decode cX2_init 9 = .ok (.bipush 19, 2) := by decide +kernel
theorem dX2_init_11 : decode cX2_init 11 = .ok (.invokespecial 11, 3) := by decide +kernel
theorem dX2_init_14 : decode cX2_init 14 = .ok (.putfield 14, 3) := by decide +kernel
theorem dX2_init_17 : decode cX2_init 17 = .ok (.aload_n 0, 1) := by decide +kernel
theorem dX2_init_18 : decode cX2_init 18 = .ok (.iconst 0, 1) := by decide +kernel
theorem dX2_init_19 : decode cX2_init 19 = .ok (.putfield 18, 3) := by decide +kernel
theorem dX2_init_22 : decode cX2_init 22 = .ok (.aload_n 0, 1) := by decide +kernel
theorem dX2_init_23 : decode cX2_init 23 = .ok (.iconst 0, 1) := by decide +kernel
theorem dX2_init_24 : decode cX2_init 24 = .ok (.putfield 22, 3) := by decide +kernel
theorem dX2_init_27 : decode cX2_init 27 = .ok (.aload_n 0, 1) := by decide +kernel
theorem dX2_init_28 : decode cX2_init 28 = .ok (.iconst 0, 1) := by decide +kernel
theorem dX2_init_29 : decode cX2_init 29 = .ok (.putfield 25, 3) := by decide +kernel
theorem dX2_init_32 : decode cX2_init 32 = .ok (.aload_n 0, 1) := by decide +kernel
theorem dX2_init_33 : decode cX2_init 33 = .ok (.new 9, 3) := by decide +kernel
theorem dX2_init_36 : decode cX2_init 36 = .ok (.dup, 1) := by decide +kernel
theorem dX2_init_37 : decode cX2_init 37 = .ok (.bipush 6, 2) := by decide +kernel
theorem dX2_init_39 : decode cX2_init 39 = .ok (.invokespecial 11, 3) := by decide +kernel
theorem dX2_init_42 : decode cX2_init 42 = .ok (.putfield 28, 3) := by decide +kernel
theorem dX2_init_45 : decode cX2_init 45 = .ok (.aload_n 0, 1) := by decide +kernel
theorem dX2_init_46 : decode cX2_init 46 = .ok (.new 31, 3) := by decide +kernel
theorem dX2_init_49 : decode cX2_init 49 = .ok (.dup, 1) := by decide +kernel
theorem dX2_init_50 : decode cX2_init 50 = .ok (.invokespecial 33, 3) := by decide +kernel
theorem dX2_init_53 : decode cX2_init 53 = .ok (.putfield 34, 3) := by decide +kernel
theorem dX2_init_56 : decode cX2_init 56 = .ok (.aload_n 0, 1) := by decide +kernel
theorem dX2_init_57 : decode cX2_init 57 = .ok (.new 31, 3) := by decide +kernel
theorem dX2_init_60 : decode cX2_init 60 = .ok (.dup, 1) := by decide +kernel
theorem dX2_init_61 : decode cX2_init 61 = .ok (.invokespecial 33, 3) := by decide +kernel
theorem dX2_init_64 : decode cX2_init 64 = .ok (.putfield 38, 3) := by decide +kernel
theorem dX2_init_67 : decode cX2_init 67 = .ok (.aload_n 0, 1) := by decide +kernel
theorem dX2_init_68 : decode cX2_init 68 = .ok (.iconst 0, 1) := by decide +kernel
theorem dX2_init_69 : decode cX2_init 69 = .ok (.putfield 41, 3) := by decide +kernel
theorem dX2_init_72 : decode cX2_init 72 = .ok (.aload_n 0, 1) := by decide +kernel
theorem dX2_init_73 : decode cX2_init 73 = .ok (.new 9, 3) := by decide +kernel
theorem dX2_init_76 : decode cX2_init 76 = .ok (.dup, 1) := by decide +kernel
theorem dX2_init_77 : decode cX2_init 77 = .ok (.bipush 6, 2) := by decide +kernel
theorem dX2_init_79 : decode cX2_init 79 = .ok (.invokespecial 11, 3) := by decide +kernel
theorem dX2_init_82 : decode cX2_init 82 = .ok (.putfield 45, 3) := by decide +kernel
theorem dX2_init_85 : decode cX2_init 85 = .ok (.aload_n 0, 1) := by decide +kernel
theorem dX2_init_86 : decode cX2_init 86 = .ok (.new 9, 3) := by decide +kernel
theorem dX2_init_89 : decode cX2_init 89 = .ok (.dup, 1) := by decide +kernel
theorem dX2_init_90 : decode cX2_init 90 = .ok (.bipush 31, 2) := by decide +kernel
theorem dX2_init_92 : decode cX2_init 92 = .ok (.invokespecial 11, 3) := by decide +kernel
theorem dX2_init_95 : decode cX2_init 95 = .ok (.putfield 48, 3) := by decide +kernel
theorem dX2_init_98 : decode cX2_init 98 = .ok (.aload_n 0, 1) := by decide +kernel
theorem dX2_init_99 : decode cX2_init 99 = .ok (.new 9, 3) := by decide +kernel
theorem dX2_init_102 : decode cX2_init 102 = .ok (.dup, 1) := by decide +kernel
theorem dX2_init_103 : decode cX2_init 103 = .ok (.bipush 40, 2) := by decide +kernel
theorem dX2_init_105 : decode cX2_init 105 = .ok (.invokespecial 11, 3) := by decide +kernel
theorem dX2_init_108 : decode cX2_init 108 = .ok (.putfield 51, 3) := by decide +kernel
theorem dX2_init_111 : decode cX2_init 111 = .ok (.return_, 1) := by decide +kernel
theorem dX2_letter_0 : decode cX2_letter 0 = .ok (.iload_n 1, 1) := by decide +kernel
theorem dX2_letter_1 : decode cX2_letter 1 = .ok (.bipush 32, 2) := by decide +kernel
theorem dX2_letter_3 : decode cX2_letter 3 = .ok (.if_icmp .lt 9, 3) := by decide +kernel
theorem dX2_letter_6 : decode cX2_letter 6 = .ok (.iload_n 1, 1) := by decide +kernel
theorem dX2_letter_7 : decode cX2_letter 7 = .ok (.bipush 126, 2) := by decide +kernel
theorem dX2_letter_9 : decode cX2_letter 9 = .ok (.if_icmp .le 6, 3) := by decide +kernel
theorem dX2_letter_12 : decode cX2_letter 12 = .ok (.bipush (-102), 2) := by decide +kernel
theorem dX2_letter_14 : decode cX2_letter 14 = .ok (.ireturn, 1) := by decide +kernel
theorem dX2_letter_15 : decode cX2_letter 15 = .ok (.aload_n 0, 1) := by decide +kernel
theorem dX2_letter_16 : decode cX2_letter 16 = .ok (.getfield 18, 3) := by decide +kernel
theorem dX2_letter_19 : decode cX2_letter 19 = .ok (.bipush 19, 2) := by decide +kernel
theorem dX2_letter_21 : decode cX2_letter 21 = .ok (.if_icmp .lt 6, 3) := by decide +kernel
theorem dX2_letter_24 : decode cX2_letter 24 = .ok (.bipush (-104), 2) := by decide +kernel
theorem dX2_letter_26 : decode cX2_letter 26 = .ok (.ireturn, 1) := by decide +kernel
theorem dX2_letter_27 : decode cX2_letter 27 = .ok (.aload_n 0, 1) := by decide +kernel
theorem dX2_letter_28 : decode cX2_letter 28 = .ok (.getfield 14, 3) := by decide +kernel
theorem dX2_letter_31 : decode cX2_letter 31 = .ok (.aload_n 0, 1) := by decide +kernel
theorem dX2_letter_32 : decode cX2_letter 32 = .ok (.getfield 18, 3) := by decide +kernel
theorem dX2_letter_35 : decode cX2_letter 35 = .ok (.iload_n 1, 1) := by decide +kernel
theorem dX2_letter_36 : decode cX2_letter 36 = .ok (.invokevirtual 54, 3) := by decide +kernel
theorem dX2_letter_39 : decode cX2_letter 39 = .ok (.aload_n 0, 1) := by decide +kernel
theorem dX2_letter_40 : decode cX2_letter 40 = .ok (.dup, 1) := by decide +kernel
theorem dX2_letter_41 : decode cX2_letter 41 = .ok (.getfield 18, 3) := by decide +kernel
theorem dX2_letter_44 : decode cX2_letter 44 = .ok (.iconst 1, 1) := by decide +kernel
theorem dX2_letter_45 : decode cX2_letter 45 = .ok (.iadd, 1) := by decide +kernel
theorem dX2_letter_46 : decode cX2_letter 46 = .ok (.putfield 18, 3) := by decide +kernel
theorem dX2_letter_49 : decode cX2_letter 49 = .ok (.aload_n 0, 1) := by decide +kernel
theorem dX2_letter_50 : decode cX2_letter 50 = .ok (.getfield 18, 3) := by decide +kernel
theorem dX2_letter_53 : decode cX2_letter 53 = .ok (.ireturn, 1) := by decide +kernel
theorem dX2_blank_0 : decode cX2_blank 0 = .ok (.aload_n 0, 1) := by decide +kernel
theorem dX2_blank_1 : decode cX2_blank 1 = .ok (.getfield 18, 3) := by decide +kernel
theorem dX2_blank_4 : decode cX2_blank 4 = .ok (.istore_n 1, 1) := by decide +kernel
theorem dX2_blank_5 : decode cX2_blank 5 = .ok (.aload_n 0, 1) := by decide +kernel
theorem dX2_blank_6 : decode cX2_blank 6 = .ok (.iconst 0, 1) := by decide +kernel
theorem dX2_blank_7 : decode cX2_blank 7 = .ok (.putfield 18, 3) := by decide +kernel
theorem dX2_blank_10 : decode cX2_blank 10 = .ok (.iload_n 1, 1) := by decide +kernel
theorem dX2_blank_11 : decode cX2_blank 11 = .ok (.ireturn, 1) := by decide +kernel
theorem dX2_fault_0 : decode cX2_fault 0 = .ok (.iconst 0, 1) := by decide +kernel
theorem dX2_fault_1 : decode cX2_fault 1 = .ok (.istore_n 1, 1) := by decide +kernel
theorem dX2_fault_2 : decode cX2_fault 2 = .ok (.iload_n 1, 1) := by decide +kernel
theorem dX2_fault_3 : decode cX2_fault 3 = .ok (.aload_n 0, 1) := by decide +kernel
theorem dX2_fault_4 : decode cX2_fault 4 = .ok (.getfield 18, 3) := by decide +kernel
theorem dX2_fault_7 : decode cX2_fault 7 = .ok (.if_icmp .ge 26, 3) := by decide +kernel
theorem dX2_fault_10 : decode cX2_fault 10 = .ok (.iload_n 1, 1) := by decide +kernel
theorem dX2_fault_11 : decode cX2_fault 11 = .ok (.aload_n 0, 1) := by decide +kernel
theorem dX2_fault_12 : decode cX2_fault 12 = .ok (.getfield 14, 3) := by decide +kernel
theorem dX2_fault_15 : decode cX2_fault 15 = .ok (.iload_n 1, 1) := by decide +kernel
theorem dX2_fault_16 : decode cX2_fault 16 = .ok (.invokevirtual 58, 3) := by decide +kernel
theorem dX2_fault_19 : decode cX2_fault 19 = .ok (.invokestatic 62, 3) := by decide +kernel
theorem dX2_fault_22 : decode cX2_fault 22 = .ok (.ifCond .ne 5, 3) := by decide +kernel
theorem dX2_fault_25 : decode cX2_fault 25 = .ok (.iload_n 1, 1) := by decide +kernel
theorem dX2_fault_26 : decode cX2_fault 26 = .ok (.ireturn, 1) := by decide +kernel
theorem dX2_fault_27 : decode cX2_fault 27 = .ok (.iinc 1 1, 3) := by decide +kernel
theorem dX2_fault_30 : decode cX2_fault 30 = .ok (.goto (-28), 3) := by decide +kernel
theorem dX2_fault_33 : decode cX2_fault 33 = .ok (.aload_n 0, 1) := by decide +kernel
theorem dX2_fault_34 : decode cX2_fault 34 = .ok (.getfield 18, 3) := by decide +kernel
theorem dX2_fault_37 : decode cX2_fault 37 = .ok (.ireturn, 1) := by decide +kernel
theorem dX2_street_0 : decode cX2_street 0 = .ok (.aload_n 0, 1) := by decide +kernel
theorem dX2_street_1 : decode cX2_street 1 = .ok (.invokevirtual 66, 3) := by decide +kernel
theorem dX2_street_4 : decode cX2_street 4 = .ok (.istore_n 1, 1) := by decide +kernel
theorem dX2_street_5 : decode cX2_street 5 = .ok (.iload_n 1, 1) := by decide +kernel
theorem dX2_street_6 : decode cX2_street 6 = .ok (.iconst 2, 1) := by decide +kernel
theorem dX2_street_7 : decode cX2_street 7 = .ok (.if_icmp .ge 6, 3) := by decide +kernel
theorem dX2_street_10 : decode cX2_street 10 = .ok (.bipush (-103), 2) := by decide +kernel
theorem dX2_street_12 : decode cX2_street 12 = .ok (.ireturn, 1) := by decide +kernel
theorem dX2_street_13 : decode cX2_street 13 = .ok (.aload_n 0, 1) := by decide +kernel
theorem dX2_street_14 : decode cX2_street 14 = .ok (.iload_n 1, 1) := by decide +kernel
theorem dX2_street_15 : decode cX2_street 15 = .ok (.putfield 22, 3) := by decide +kernel
theorem dX2_street_18 : decode cX2_street 18 = .ok (.aload_n 0, 1) := by decide +kernel
theorem dX2_street_19 : decode cX2_street 19 = .ok (.getfield 34, 3) := by decide +kernel
theorem dX2_street_22 : decode cX2_street 22 = .ok (.invokevirtual 70, 3) := by decide +kernel
theorem dX2_street_25 : decode cX2_street 25 = .ok (.iconst 0, 1) := by decide +kernel
theorem dX2_street_26 : decode cX2_street 26 = .ok (.istore_n 2, 1) := by decide +kernel
theorem dX2_street_27 : decode cX2_street 27 = .ok (.iload_n 2, 1) := by decide +kernel
theorem dX2_street_28 : decode cX2_street 28 = .ok (.aload_n 0, 1) := by decide +kernel
theorem dX2_street_29 : decode cX2_street 29 = .ok (.getfield 22, 3) := by decide +kernel
theorem dX2_street_32 : decode cX2_street 32 = .ok (.if_icmp .ge 56, 3) := by decide +kernel
theorem dX2_street_35 : decode cX2_street 35 = .ok (.iload_n 2, 1) := by decide +kernel
theorem dX2_street_36 : decode cX2_street 36 = .ok (.iconst 3, 1) := by decide +kernel
theorem dX2_street_37 : decode cX2_street 37 = .ok (.imul, 1) := by decide +kernel
theorem dX2_street_38 : decode cX2_street 38 = .ok (.istore_n 3, 1) := by decide +kernel
theorem dX2_street_39 : decode cX2_street 39 = .ok (.aload_n 0, 1) := by decide +kernel
theorem dX2_street_40 : decode cX2_street 40 = .ok (.getfield 28, 3) := by decide +kernel
theorem dX2_street_43 : decode cX2_street 43 = .ok (.iload_n 2, 1) := by decide +kernel
theorem dX2_street_44 : decode cX2_street 44 = .ok (.aload_n 0, 1) := by decide +kernel
theorem dX2_street_45 : decode cX2_street 45 = .ok (.getfield 14, 3) := by decide +kernel
theorem dX2_street_48 : decode cX2_street 48 = .ok (.iload_n 3, 1) := by decide +kernel
theorem dX2_street_49 : decode cX2_street 49 = .ok (.invokevirtual 58, 3) := by decide +kernel
theorem dX2_street_52 : decode cX2_street 52 = .ok (.invokestatic 73, 3) := by decide +kernel
theorem dX2_street_55 : decode cX2_street 55 = .ok (.invokevirtual 54, 3) := by decide +kernel
theorem dX2_street_58 : decode cX2_street 58 = .ok (.aload_n 0, 1) := by decide +kernel
theorem dX2_street_59 : decode cX2_street 59 = .ok (.getfield 34, 3) := by decide +kernel
theorem dX2_street_62 : decode cX2_street 62 = .ok (.getfield 76, 3) := by decide +kernel
theorem dX2_street_65 : decode cX2_street 65 = .ok (.iload_n 2, 1) := by decide +kernel
theorem dX2_street_66 : decode cX2_street 66 = .ok (.aload_n 0, 1) := by decide +kernel
theorem dX2_street_67 : decode cX2_street 67 = .ok (.getfield 14, 3) := by decide +kernel
theorem dX2_street_70 : decode cX2_street 70 = .ok (.iload_n 3, 1) := by decide +kernel
theorem dX2_street_71 : decode cX2_street 71 = .ok (.iconst 1, 1) := by decide +kernel
theorem dX2_street_72 : decode cX2_street 72 = .ok (.iadd, 1) := by decide +kernel
theorem dX2_street_73 : decode cX2_street 73 = .ok (.invokevirtual 58, 3) := by decide +kernel
theorem dX2_street_76 : decode cX2_street 76 = .ok (.bipush 48, 2) := by decide +kernel
theorem dX2_street_78 : decode cX2_street 78 = .ok (.isub, 1) := by decide +kernel
theorem dX2_street_79 : decode cX2_street 79 = .ok (.invokevirtual 54, 3) := by decide +kernel
theorem dX2_street_82 : decode cX2_street 82 = .ok (.iinc 2 1, 3) := by decide +kernel
theorem dX2_street_85 : decode cX2_street 85 = .ok (.goto (-58), 3) := by decide +kernel
theorem dX2_street_88 : decode cX2_street 88 = .ok (.aload_n 0, 1) := by decide +kernel
theorem dX2_street_89 : decode cX2_street 89 = .ok (.iconst 0, 1) := by decide +kernel
theorem dX2_street_90 : decode cX2_street 90 = .ok (.putfield 41, 3) := by decide +kernel
theorem dX2_street_93 : decode cX2_street 93 = .ok (.aload_n 0, 1) := by decide +kernel
theorem dX2_street_94 : decode cX2_street 94 = .ok (.iconst 0, 1) := by decide +kernel
theorem dX2_street_95 : decode cX2_street 95 = .ok (.putfield 18, 3) := by decide +kernel
theorem dX2_street_98 : decode cX2_street 98 = .ok (.aload_n 0, 1) := by decide +kernel
theorem dX2_street_99 : decode cX2_street 99 = .ok (.dup, 1) := by decide +kernel
theorem dX2_street_100 : decode cX2_street 100 = .ok (.getfield 25, 3) := by decide +kernel
theorem dX2_street_103 : decode cX2_street 103 = .ok (.iconst 1, 1) := by decide +kernel
theorem dX2_street_104 : decode cX2_street 104 = .ok (.iadd, 1) := by decide +kernel
theorem dX2_street_105 : decode cX2_street 105 = .ok (.putfield 25, 3) := by decide +kernel
theorem dX2_street_108 : decode cX2_street 108 = .ok (.aload_n 0, 1) := by decide +kernel
theorem dX2_street_109 : decode cX2_street 109 = .ok (.getfield 22, 3) := by decide +kernel
theorem dX2_street_112 : decode cX2_street 112 = .ok (.ireturn, 1) := by decide +kernel
theorem dX2_about_0 : decode cX2_about 0 = .ok (.aload_n 0, 1) := by decide +kernel
theorem dX2_about_1 : decode cX2_about 1 = .ok (.iload_n 1, 1) := by decide +kernel
theorem dX2_about_2 : decode cX2_about 2 = .ok (.invokevirtual 79, 3) := by decide +kernel
theorem dX2_about_5 : decode cX2_about 5 = .ok (.ifCond .ne 6, 3) := by decide +kernel
theorem dX2_about_8 : decode cX2_about 8 = .ok (.bipush (-101), 2) := by decide +kernel
theorem dX2_about_10 : decode cX2_about 10 = .ok (.ireturn, 1) := by decide +kernel
theorem dX2_about_11 : decode cX2_about 11 = .ok (.iload_n 2, 1) := by decide +kernel
theorem dX2_about_12 : decode cX2_about 12 = .ok (.ifCond .lt 8, 3) := by decide +kernel
theorem dX2_about_15 : decode cX2_about 15 = .ok (.iload_n 2, 1) := by decide +kernel
theorem dX2_about_16 : decode cX2_about 16 = .ok (.iconst 5, 1) := by decide +kernel
theorem dX2_about_17 : decode cX2_about 17 = .ok (.if_icmp .le 6, 3) := by decide +kernel
theorem dX2_about_20 : decode cX2_about 20 = .ok (.bipush (-102), 2) := by decide +kernel
theorem dX2_about_22 : decode cX2_about 22 = .ok (.ireturn, 1) := by decide +kernel
theorem dX2_about_23 : decode cX2_about 23 = .ok (.iload_n 2, 1) := by decide +kernel
theorem dX2_about_24 : decode cX2_about 24 = .ok (.tableswitch 81 0 4 #[36, 45, 57, 63, 75], 36) := by decide +kernel
theorem dX2_about_60 : decode cX2_about 60 = .ok (.aload_n 0, 1) := by decide +kernel
theorem dX2_about_61 : decode cX2_about 61 = .ok (.getfield 28, 3) := by decide +kernel
theorem dX2_about_64 : decode cX2_about 64 = .ok (.iload_n 1, 1) := by decide +kernel
theorem dX2_about_65 : decode cX2_about 65 = .ok (.invokevirtual 58, 3) := by decide +kernel
theorem dX2_about_68 : decode cX2_about 68 = .ok (.ireturn, 1) := by decide +kernel
theorem dX2_about_69 : decode cX2_about 69 = .ok (.aload_n 0, 1) := by decide +kernel
theorem dX2_about_70 : decode cX2_about 70 = .ok (.getfield 34, 3) := by decide +kernel
theorem dX2_about_73 : decode cX2_about 73 = .ok (.getfield 76, 3) := by decide +kernel
theorem dX2_about_76 : decode cX2_about 76 = .ok (.iload_n 1, 1) := by decide +kernel
theorem dX2_about_77 : decode cX2_about 77 = .ok (.invokevirtual 58, 3) := by decide +kernel
theorem dX2_about_80 : decode cX2_about 80 = .ok (.ireturn, 1) := by decide +kernel
theorem dX2_about_81 : decode cX2_about 81 = .ok (.aload_n 0, 1) := by decide +kernel
theorem dX2_about_82 : decode cX2_about 82 = .ok (.iload_n 1, 1) := by decide +kernel
theorem dX2_about_83 : decode cX2_about 83 = .ok (.invokevirtual 83, 3) := by decide +kernel
theorem dX2_about_86 : decode cX2_about 86 = .ok (.ireturn, 1) := by decide +kernel
theorem dX2_about_87 : decode cX2_about 87 = .ok (.aload_n 0, 1) := by decide +kernel
theorem dX2_about_88 : decode cX2_about 88 = .ok (.getfield 34, 3) := by decide +kernel
theorem dX2_about_91 : decode cX2_about 91 = .ok (.getfield 86, 3) := by decide +kernel
theorem dX2_about_94 : decode cX2_about 94 = .ok (.iload_n 1, 1) := by decide +kernel
theorem dX2_about_95 : decode cX2_about 95 = .ok (.invokevirtual 58, 3) := by decide +kernel
theorem dX2_about_98 : decode cX2_about 98 = .ok (.ireturn, 1) := by decide +kernel
theorem dX2_about_99 : decode cX2_about 99 = .ok (.aload_n 0, 1) := by decide +kernel
theorem dX2_about_100 : decode cX2_about 100 = .ok (.iload_n 1, 1) := by decide +kernel
theorem dX2_about_101 : decode cX2_about 101 = .ok (.invokevirtual 89, 3) := by decide +kernel
theorem dX2_about_104 : decode cX2_about 104 = .ok (.ireturn, 1) := by decide +kernel
theorem dX2_about_105 : decode cX2_about 105 = .ok (.aload_n 0, 1) := by decide +kernel
theorem dX2_about_106 : decode cX2_about 106 = .ok (.aload_n 0, 1) := by decide +kernel
theorem dX2_about_107 : decode cX2_about 107 = .ok (.getfield 34, 3) := by decide +kernel
theorem dX2_about_110 : decode cX2_about 110 = .ok (.getfield 76, 3) := by decide +kernel
theorem dX2_about_113 : decode cX2_about 113 = .ok (.iload_n 1, 1) := by decide +kernel
theorem dX2_about_114 : decode cX2_about 114 = .ok (.invokevirtual 92, 3) := by decide +kernel
theorem dX2_about_117 : decode cX2_about 117 = .ok (.ireturn, 1) := by decide +kernel
theorem dX2_as_0 : decode cX2_as 0 = .ok (.aload_n 0, 1) := by decide +kernel
theorem dX2_as_1 : decode cX2_as 1 = .ok (.iload_n 1, 1) := by decide +kernel
theorem dX2_as_2 : decode cX2_as 2 = .ok (.invokevirtual 79, 3) := by decide +kernel
theorem dX2_as_5 : decode cX2_as 5 = .ok (.ifCond .ne 6, 3) := by decide +kernel
theorem dX2_as_8 : decode cX2_as 8 = .ok (.bipush (-101), 2) := by decide +kernel
theorem dX2_as_10 : decode cX2_as 10 = .ok (.ireturn, 1) := by decide +kernel
theorem dX2_as_11 : decode cX2_as 11 = .ok (.iload_n 2, 1) := by decide +kernel
theorem dX2_as_12 : decode cX2_as 12 = .ok (.ifCond .lt 8, 3) := by decide +kernel
theorem dX2_as_15 : decode cX2_as 15 = .ok (.iload_n 2, 1) := by decide +kernel
theorem dX2_as_16 : decode cX2_as 16 = .ok (.iconst 4, 1) := by decide +kernel
theorem dX2_as_17 : decode cX2_as 17 = .ok (.if_icmp .le 6, 3) := by decide +kernel
theorem dX2_as_20 : decode cX2_as 20 = .ok (.bipush (-102), 2) := by decide +kernel
theorem dX2_as_22 : decode cX2_as 22 = .ok (.ireturn, 1) := by decide +kernel
theorem dX2_as_23 : decode cX2_as 23 = .ok (.aload_n 0, 1) := by decide +kernel
theorem dX2_as_24 : decode cX2_as 24 = .ok (.getfield 28, 3) := by decide +kernel
theorem dX2_as_27 : decode cX2_as 27 = .ok (.iload_n 1, 1) := by decide +kernel
theorem dX2_as_28 : decode cX2_as 28 = .ok (.invokevirtual 58, 3) := by decide +kernel
theorem dX2_as_31 : decode cX2_as 31 = .ok (.iload_n 2, 1) := by decide +kernel
theorem dX2_as_32 : decode cX2_as 32 = .ok (.invokestatic 96, 3) := by decide +kernel
theorem dX2_as_35 : decode cX2_as 35 = .ok (.ifCond .eq 7, 3) := by decide +kernel
theorem dX2_as_38 : decode cX2_as 38 = .ok (.iload_n 1, 1) := by decide +kernel
theorem dX2_as_39 : decode cX2_as 39 = .ok (.goto 4, 3) := by decide +kernel
theorem dX2_as_42 : decode cX2_as 42 = .ok (.iconst (-1), 1) := by decide +kernel
theorem dX2_as_43 : decode cX2_as 43 = .ok (.ireturn, 1) := by decide +kernel
theorem dX2_birth_0 : decode cX2_birth 0 = .ok (.aload_n 0, 1) := by decide +kernel
theorem dX2_birth_1 : decode cX2_birth 1 = .ok (.iload_n 1, 1) := by decide +kernel
theorem dX2_birth_2 : decode cX2_birth 2 = .ok (.invokevirtual 79, 3) := by decide +kernel
theorem dX2_birth_5 : decode cX2_birth 5 = .ok (.ifCond .ne 6, 3) := by decide +kernel
theorem dX2_birth_8 : decode cX2_birth 8 = .ok (.bipush (-101), 2) := by decide +kernel
theorem dX2_birth_10 : decode cX2_birth 10 = .ok (.ireturn, 1) := by decide +kernel
theorem dX2_birth_11 : decode cX2_birth 11 = .ok (.aload_n 0, 1) := by decide +kernel
theorem dX2_birth_12 : decode cX2_birth 12 = .ok (.getfield 28, 3) := by decide +kernel
theorem dX2_birth_15 : decode cX2_birth 15 = .ok (.iload_n 1, 1) := by decide +kernel
theorem dX2_birth_16 : decode cX2_birth 16 = .ok (.invokevirtual 58, 3) := by decide +kernel
theorem dX2_birth_19 : decode cX2_birth 19 = .ok (.iconst 2, 1) := by decide +kernel
theorem dX2_birth_20 : decode cX2_birth 20 = .ok (.invokestatic 96, 3) := by decide +kernel
theorem dX2_birth_23 : decode cX2_birth 23 = .ok (.ifCond .eq 6, 3) := by decide +kernel
theorem dX2_birth_26 : decode cX2_birth 26 = .ok (.bipush (-103), 2) := by decide +kernel
theorem dX2_birth_28 : decode cX2_birth 28 = .ok (.ireturn, 1) := by decide +kernel
theorem dX2_birth_29 : decode cX2_birth 29 = .ok (.aload_n 0, 1) := by decide +kernel
theorem dX2_birth_30 : decode cX2_birth 30 = .ok (.aload_n 0, 1) := by decide +kernel
theorem dX2_birth_31 : decode cX2_birth 31 = .ok (.getfield 34, 3) := by decide +kernel
theorem dX2_birth_34 : decode cX2_birth 34 = .ok (.getfield 76, 3) := by decide +kernel
theorem dX2_birth_37 : decode cX2_birth 37 = .ok (.iload_n 1, 1) := by decide +kernel
theorem dX2_birth_38 : decode cX2_birth 38 = .ok (.invokevirtual 99, 3) := by decide +kernel
theorem dX2_birth_41 : decode cX2_birth 41 = .ok (.aload_n 0, 1) := by decide +kernel
theorem dX2_birth_42 : decode cX2_birth 42 = .ok (.getfield 34, 3) := by decide +kernel
theorem dX2_birth_45 : decode cX2_birth 45 = .ok (.dup, 1) := by decide +kernel
theorem dX2_birth_46 : decode cX2_birth 46 = .ok (.getfield 103, 3) := by decide +kernel
theorem dX2_birth_49 : decode cX2_birth 49 = .ok (.iconst 1, 1) := by decide +kernel
theorem dX2_birth_50 : decode cX2_birth 50 = .ok (.iadd, 1) := by decide +kernel
theorem dX2_birth_51 : decode cX2_birth 51 = .ok (.putfield 103, 3) := by decide +kernel
theorem dX2_birth_54 : decode cX2_birth 54 = .ok (.aload_n 0, 1) := by decide +kernel
theorem dX2_birth_55 : decode cX2_birth 55 = .ok (.getfield 34, 3) := by decide +kernel
theorem dX2_birth_58 : decode cX2_birth 58 = .ok (.getfield 86, 3) := by decide +kernel
theorem dX2_birth_61 : decode cX2_birth 61 = .ok (.iload_n 1, 1) := by decide +kernel
theorem dX2_birth_62 : decode cX2_birth 62 = .ok (.iconst 1, 1) := by decide +kernel
theorem dX2_birth_63 : decode cX2_birth 63 = .ok (.invokevirtual 106, 3) := by decide +kernel
theorem dX2_birth_66 : decode cX2_birth 66 = .ok (.aload_n 0, 1) := by decide +kernel
theorem dX2_birth_67 : decode cX2_birth 67 = .ok (.iload_n 1, 1) := by decide +kernel
theorem dX2_birth_68 : decode cX2_birth 68 = .ok (.invokevirtual 109, 3) := by decide +kernel
theorem dX2_birth_71 : decode cX2_birth 71 = .ok (.ifCond .ne 5, 3) := by decide +kernel
theorem dX2_birth_74 : decode cX2_birth 74 = .ok (.iconst 1, 1) := by decide +kernel
theorem dX2_birth_75 : decode cX2_birth 75 = .ok (.ireturn, 1) := by decide +kernel
theorem dX2_birth_76 : decode cX2_birth 76 = .ok (.aload_n 0, 1) := by decide +kernel
theorem dX2_birth_77 : decode cX2_birth 77 = .ok (.getfield 34, 3) := by decide +kernel
theorem dX2_birth_80 : decode cX2_birth 80 = .ok (.getfield 86, 3) := by decide +kernel
theorem dX2_birth_83 : decode cX2_birth 83 = .ok (.iload_n 1, 1) := by decide +kernel
theorem dX2_birth_84 : decode cX2_birth 84 = .ok (.iconst 1, 1) := by decide +kernel
theorem dX2_birth_85 : decode cX2_birth 85 = .ok (.iadd, 1) := by decide +kernel
theorem dX2_birth_86 : decode cX2_birth 86 = .ok (.iconst 1, 1) := by decide +kernel
theorem dX2_birth_87 : decode cX2_birth 87 = .ok (.invokevirtual 106, 3) := by decide +kernel
theorem dX2_birth_90 : decode cX2_birth 90 = .ok (.iconst 2, 1) := by decide +kernel
theorem dX2_birth_91 : decode cX2_birth 91 = .ok (.ireturn, 1) := by decide +kernel
theorem dX2_day_0 : decode cX2_day 0 = .ok (.aload_n 0, 1) := by decide +kernel
theorem dX2_day_1 : decode cX2_day 1 = .ok (.getfield 22, 3) := by decide +kernel
theorem dX2_day_4 : decode cX2_day 4 = .ok (.ifCond .ne 6, 3) := by decide +kernel
theorem dX2_day_7 : decode cX2_day 7 = .ok (.bipush (-103), 2) := by decide +kernel
theorem dX2_day_9 : decode cX2_day 9 = .ok (.ireturn, 1) := by decide +kernel
theorem dX2_day_10 : decode cX2_day 10 = .ok (.aload_n 0, 1) := by decide +kernel
theorem dX2_day_11 : decode cX2_day 11 = .ok (.getfield 34, 3) := by decide +kernel
theorem dX2_day_14 : decode cX2_day 14 = .ok (.getfield 112, 3) := by decide +kernel
theorem dX2_day_17 : decode cX2_day 17 = .ok (.bipush 30, 2) := by decide +kernel
theorem dX2_day_19 : decode cX2_day 19 = .ok (.if_icmp .lt 6, 3) := by decide +kernel
theorem dX2_day_22 : decode cX2_day 22 = .ok (.bipush (-104), 2) := by decide +kernel
theorem dX2_day_24 : decode cX2_day 24 = .ok (.ireturn, 1) := by decide +kernel
theorem dX2_day_25 : decode cX2_day 25 = .ok (.iconst 0, 1) := by decide +kernel
theorem dX2_day_26 : decode cX2_day 26 = .ok (.istore_n 1, 1) := by decide +kernel
theorem dX2_day_27 : decode cX2_day 27 = .ok (.iload_n 1, 1) := by decide +kernel
theorem dX2_day_28 : decode cX2_day 28 = .ok (.aload_n 0, 1) := by decide +kernel
theorem dX2_day_29 : decode cX2_day 29 = .ok (.getfield 22, 3) := by decide +kernel
theorem dX2_day_32 : decode cX2_day 32 = .ok (.if_icmp .ge 41, 3) := by decide +kernel
theorem dX2_day_35 : decode cX2_day 35 = .ok (.aload_n 0, 1) := by decide +kernel
theorem dX2_day_36 : decode cX2_day 36 = .ok (.getfield 34, 3) := by decide +kernel
theorem dX2_day_39 : decode cX2_day 39 = .ok (.getfield 115, 3) := by decide +kernel
theorem dX2_day_42 : decode cX2_day 42 = .ok (.iload_n 1, 1) := by decide +kernel
theorem dX2_day_43 : decode cX2_day 43 = .ok (.aload_n 0, 1) := by decide +kernel
theorem dX2_day_44 : decode cX2_day 44 = .ok (.getfield 34, 3) := by decide +kernel
theorem dX2_day_47 : decode cX2_day 47 = .ok (.getfield 112, 3) := by decide +kernel
theorem dX2_day_50 : decode cX2_day 50 = .ok (.invokestatic 118, 3) := by decide +kernel
theorem dX2_day_53 : decode cX2_day 53 = .ok (.aload_n 0, 1) := by decide +kernel
theorem dX2_day_54 : decode cX2_day 54 = .ok (.getfield 34, 3) := by decide +kernel
theorem dX2_day_57 : decode cX2_day 57 = .ok (.getfield 76, 3) := by decide +kernel
theorem dX2_day_60 : decode cX2_day 60 = .ok (.iload_n 1, 1) := by decide +kernel
theorem dX2_day_61 : decode cX2_day 61 = .ok (.invokevirtual 58, 3) := by decide +kernel
theorem dX2_day_64 : decode cX2_day 64 = .ok (.invokevirtual 54, 3) := by decide +kernel
theorem dX2_day_67 : decode cX2_day 67 = .ok (.iinc 1 1, 3) := by decide +kernel
theorem dX2_day_70 : decode cX2_day 70 = .ok (.goto (-43), 3) := by decide +kernel
theorem dX2_day_73 : decode cX2_day 73 = .ok (.aload_n 0, 1) := by decide +kernel
theorem dX2_day_74 : decode cX2_day 74 = .ok (.aload_n 0, 1) := by decide +kernel
theorem dX2_day_75 : decode cX2_day 75 = .ok (.getfield 34, 3) := by decide +kernel
theorem dX2_day_78 : decode cX2_day 78 = .ok (.getfield 76, 3) := by decide +kernel
theorem dX2_day_81 : decode cX2_day 81 = .ok (.invokevirtual 122, 3) := by decide +kernel
theorem dX2_day_84 : decode cX2_day 84 = .ok (.aload_n 0, 1) := by decide +kernel
theorem dX2_day_85 : decode cX2_day 85 = .ok (.getfield 34, 3) := by decide +kernel
theorem dX2_day_88 : decode cX2_day 88 = .ok (.dup, 1) := by decide +kernel
theorem dX2_day_89 : decode cX2_day 89 = .ok (.getfield 112, 3) := by decide +kernel
theorem dX2_day_92 : decode cX2_day 92 = .ok (.iconst 1, 1) := by decide +kernel
theorem dX2_day_93 : decode cX2_day 93 = .ok (.iadd, 1) := by decide +kernel
theorem dX2_day_94 : decode cX2_day 94 = .ok (.putfield 112, 3) := by decide +kernel
theorem dX2_day_97 : decode cX2_day 97 = .ok (.aload_n 0, 1) := by decide +kernel
theorem dX2_day_98 : decode cX2_day 98 = .ok (.getfield 34, 3) := by decide +kernel
theorem dX2_day_101 : decode cX2_day 101 = .ok (.getfield 112, 3) := by decide +kernel
theorem dX2_day_104 : decode cX2_day 104 = .ok (.ireturn, 1) := by decide +kernel
theorem dX2_then_0 : decode cX2_then 0 = .ok (.aload_n 0, 1) := by decide +kernel
theorem dX2_then_1 : decode cX2_then 1 = .ok (.iload_n 1, 1) := by decide +kernel
theorem dX2_then_2 : decode cX2_then 2 = .ok (.invokevirtual 79, 3) := by decide +kernel
theorem dX2_then_5 : decode cX2_then 5 = .ok (.ifCond .eq 11, 3) := by decide +kernel
theorem dX2_then_8 : decode cX2_then 8 = .ok (.aload_n 0, 1) := by decide +kernel
theorem dX2_then_9 : decode cX2_then 9 = .ok (.iload_n 2, 1) := by decide +kernel
theorem dX2_then_10 : decode cX2_then 10 = .ok (.invokevirtual 126, 3) := by decide +kernel
theorem dX2_then_13 : decode cX2_then 13 = .ok (.ifCond .ne 6, 3) := by decide +kernel
theorem dX2_then_16 : decode cX2_then 16 = .ok (.bipush (-101), 2) := by decide +kernel
theorem dX2_then_18 : decode cX2_then 18 = .ok (.ireturn, 1) := by decide +kernel
theorem dX2_then_19 : decode cX2_then 19 = .ok (.aload_n 0, 1) := by decide +kernel
theorem dX2_then_20 : decode cX2_then 20 = .ok (.iload_n 1, 1) := by decide +kernel
theorem dX2_then_21 : decode cX2_then 21 = .ok (.iload_n 2, 1) := by decide +kernel
theorem dX2_then_22 : decode cX2_then 22 = .ok (.invokevirtual 129, 3) := by decide +kernel
theorem dX2_then_25 : decode cX2_then 25 = .ok (.ireturn, 1) := by decide +kernel
theorem dX2_goesTo_0 : decode cX2_goesTo 0 = .ok (.aload_n 0, 1) := by decide +kernel
theorem dX2_goesTo_1 : decode cX2_goesTo 1 = .ok (.iload_n 2, 1) := by decide +kernel
theorem dX2_goesTo_2 : decode cX2_goesTo 2 = .ok (.invokevirtual 126, 3) := by decide +kernel
theorem dX2_goesTo_5 : decode cX2_goesTo 5 = .ok (.ifCond .ne 6, 3) := by decide +kernel
theorem dX2_goesTo_8 : decode cX2_goesTo 8 = .ok (.bipush (-101), 2) := by decide +kernel
theorem dX2_goesTo_10 : decode cX2_goesTo 10 = .ok (.ireturn, 1) := by decide +kernel
theorem dX2_goesTo_11 : decode cX2_goesTo 11 = .ok (.aload_n 0, 1) := by decide +kernel
theorem dX2_goesTo_12 : decode cX2_goesTo 12 = .ok (.iload_n 1, 1) := by decide +kernel
theorem dX2_goesTo_13 : decode cX2_goesTo 13 = .ok (.iload_n 2, 1) := by decide +kernel
theorem dX2_goesTo_14 : decode cX2_goesTo 14 = .ok (.invokevirtual 132, 3) := by decide +kernel
theorem dX2_goesTo_17 : decode cX2_goesTo 17 = .ok (.ireturn, 1) := by decide +kernel
theorem dX2_walk_0 : decode cX2_walk 0 = .ok (.aload_n 0, 1) := by decide +kernel
theorem dX2_walk_1 : decode cX2_walk 1 = .ok (.getfield 22, 3) := by decide +kernel
theorem dX2_walk_4 : decode cX2_walk 4 = .ok (.ifCond .ne 6, 3) := by decide +kernel
theorem dX2_walk_7 : decode cX2_walk 7 = .ok (.bipush (-103), 2) := by decide +kernel
theorem dX2_walk_9 : decode cX2_walk 9 = .ok (.ireturn, 1) := by decide +kernel
theorem dX2_walk_10 : decode cX2_walk 10 = .ok (.aload_n 0, 1) := by decide +kernel
theorem dX2_walk_11 : decode cX2_walk 11 = .ok (.aload_n 0, 1) := by decide +kernel
theorem dX2_walk_12 : decode cX2_walk 12 = .ok (.getfield 34, 3) := by decide +kernel
theorem dX2_walk_15 : decode cX2_walk 15 = .ok (.getfield 76, 3) := by decide +kernel
theorem dX2_walk_18 : decode cX2_walk 18 = .ok (.invokevirtual 135, 3) := by decide +kernel
theorem dX2_walk_21 : decode cX2_walk 21 = .ok (.ireturn, 1) := by decide +kernel
theorem dX2_debt_0 : decode cX2_debt 0 = .ok (.iload_n 1, 1) := by decide +kernel
theorem dX2_debt_1 : decode cX2_debt 1 = .ok (.iconst 1, 1) := by decide +kernel
theorem dX2_debt_2 : decode cX2_debt 2 = .ok (.if_icmp .lt 19, 3) := by decide +kernel
theorem dX2_debt_5 : decode cX2_debt 5 = .ok (.iload_n 1, 1) := by decide +kernel
theorem dX2_debt_6 : decode cX2_debt 6 = .ok (.bipush 9, 2) := by decide +kernel
theorem dX2_debt_8 : decode cX2_debt 8 = .ok (.if_icmp .gt 13, 3) := by decide +kernel
theorem dX2_debt_11 : decode cX2_debt 11 = .ok (.iload_n 2, 1) := by decide +kernel
theorem dX2_debt_12 : decode cX2_debt 12 = .ok (.ifCond .lt 9, 3) := by decide +kernel
theorem dX2_debt_15 : decode cX2_debt 15 = .ok (.iload_n 2, 1) := by decide +kernel
theorem dX2_debt_16 : decode cX2_debt 16 = .ok (.bipush 99, 2) := by decide +kernel
theorem dX2_debt_18 : decode cX2_debt 18 = .ok (.if_icmp .le 6, 3) := by decide +kernel
theorem dX2_debt_21 : decode cX2_debt 21 = .ok (.bipush (-102), 2) := by decide +kernel
theorem dX2_debt_23 : decode cX2_debt 23 = .ok (.ireturn, 1) := by decide +kernel
theorem dX2_debt_24 : decode cX2_debt 24 = .ok (.aload_n 0, 1) := by decide +kernel
theorem dX2_debt_25 : decode cX2_debt 25 = .ok (.getfield 22, 3) := by decide +kernel
theorem dX2_debt_28 : decode cX2_debt 28 = .ok (.ifCond .ne 6, 3) := by decide +kernel
theorem dX2_debt_31 : decode cX2_debt 31 = .ok (.bipush (-103), 2) := by decide +kernel
theorem dX2_debt_33 : decode cX2_debt 33 = .ok (.ireturn, 1) := by decide +kernel
theorem dX2_debt_34 : decode cX2_debt 34 = .ok (.aload_n 0, 1) := by decide +kernel
theorem dX2_debt_35 : decode cX2_debt 35 = .ok (.getfield 34, 3) := by decide +kernel
theorem dX2_debt_38 : decode cX2_debt 38 = .ok (.getfield 139, 3) := by decide +kernel
theorem dX2_debt_41 : decode cX2_debt 41 = .ok (.bipush 6, 2) := by decide +kernel
theorem dX2_debt_43 : decode cX2_debt 43 = .ok (.if_icmp .lt 6, 3) := by decide +kernel
theorem dX2_debt_46 : decode cX2_debt 46 = .ok (.bipush (-104), 2) := by decide +kernel
theorem dX2_debt_48 : decode cX2_debt 48 = .ok (.ireturn, 1) := by decide +kernel
theorem dX2_debt_49 : decode cX2_debt 49 = .ok (.aload_n 0, 1) := by decide +kernel
theorem dX2_debt_50 : decode cX2_debt 50 = .ok (.getfield 34, 3) := by decide +kernel
theorem dX2_debt_53 : decode cX2_debt 53 = .ok (.getfield 142, 3) := by decide +kernel
theorem dX2_debt_56 : decode cX2_debt 56 = .ok (.aload_n 0, 1) := by decide +kernel
theorem dX2_debt_57 : decode cX2_debt 57 = .ok (.getfield 34, 3) := by decide +kernel
theorem dX2_debt_60 : decode cX2_debt 60 = .ok (.getfield 139, 3) := by decide +kernel
theorem dX2_debt_63 : decode cX2_debt 63 = .ok (.iload_n 1, 1) := by decide +kernel
theorem dX2_debt_64 : decode cX2_debt 64 = .ok (.invokevirtual 54, 3) := by decide +kernel
theorem dX2_debt_67 : decode cX2_debt 67 = .ok (.aload_n 0, 1) := by decide +kernel
theorem dX2_debt_68 : decode cX2_debt 68 = .ok (.getfield 34, 3) := by decide +kernel
theorem dX2_debt_71 : decode cX2_debt 71 = .ok (.getfield 145, 3) := by decide +kernel
theorem dX2_debt_74 : decode cX2_debt 74 = .ok (.aload_n 0, 1) := by decide +kernel
theorem dX2_debt_75 : decode cX2_debt 75 = .ok (.getfield 34, 3) := by decide +kernel
theorem dX2_debt_78 : decode cX2_debt 78 = .ok (.getfield 139, 3) := by decide +kernel
theorem dX2_debt_81 : decode cX2_debt 81 = .ok (.iload_n 2, 1) := by decide +kernel
theorem dX2_debt_82 : decode cX2_debt 82 = .ok (.invokevirtual 54, 3) := by decide +kernel
theorem dX2_debt_85 : decode cX2_debt 85 = .ok (.aload_n 0, 1) := by decide +kernel
theorem dX2_debt_86 : decode cX2_debt 86 = .ok (.getfield 34, 3) := by decide +kernel
theorem dX2_debt_89 : decode cX2_debt 89 = .ok (.dup, 1) := by decide +kernel
theorem dX2_debt_90 : decode cX2_debt 90 = .ok (.getfield 139, 3) := by decide +kernel
theorem dX2_debt_93 : decode cX2_debt 93 = .ok (.iconst 1, 1) := by decide +kernel
theorem dX2_debt_94 : decode cX2_debt 94 = .ok (.iadd, 1) := by decide +kernel
theorem dX2_debt_95 : decode cX2_debt 95 = .ok (.putfield 139, 3) := by decide +kernel
theorem dX2_debt_98 : decode cX2_debt 98 = .ok (.aload_n 0, 1) := by decide +kernel
theorem dX2_debt_99 : decode cX2_debt 99 = .ok (.getfield 34, 3) := by decide +kernel
theorem dX2_debt_102 : decode cX2_debt 102 = .ok (.getfield 139, 3) := by decide +kernel
theorem dX2_debt_105 : decode cX2_debt 105 = .ok (.ireturn, 1) := by decide +kernel
theorem dX2_pay_0 : decode cX2_pay 0 = .ok (.iconst 0, 1) := by decide +kernel
theorem dX2_pay_1 : decode cX2_pay 1 = .ok (.istore_n 1, 1) := by decide +kernel
theorem dX2_pay_2 : decode cX2_pay 2 = .ok (.iconst 0, 1) := by decide +kernel
theorem dX2_pay_3 : decode cX2_pay 3 = .ok (.istore_n 2, 1) := by decide +kernel
theorem dX2_pay_4 : decode cX2_pay 4 = .ok (.iload_n 2, 1) := by decide +kernel
theorem dX2_pay_5 : decode cX2_pay 5 = .ok (.aload_n 0, 1) := by decide +kernel
theorem dX2_pay_6 : decode cX2_pay 6 = .ok (.getfield 34, 3) := by decide +kernel
theorem dX2_pay_9 : decode cX2_pay 9 = .ok (.getfield 139, 3) := by decide +kernel
theorem dX2_pay_12 : decode cX2_pay 12 = .ok (.if_icmp .ge 23, 3) := by decide +kernel
theorem dX2_pay_15 : decode cX2_pay 15 = .ok (.iload_n 1, 1) := by decide +kernel
theorem dX2_pay_16 : decode cX2_pay 16 = .ok (.aload_n 0, 1) := by decide +kernel
theorem dX2_pay_17 : decode cX2_pay 17 = .ok (.getfield 34, 3) := by decide +kernel
theorem dX2_pay_20 : decode cX2_pay 20 = .ok (.getfield 142, 3) := by decide +kernel
theorem dX2_pay_23 : decode cX2_pay 23 = .ok (.iload_n 2, 1) := by decide +kernel
theorem dX2_pay_24 : decode cX2_pay 24 = .ok (.invokevirtual 58, 3) := by decide +kernel
theorem dX2_pay_27 : decode cX2_pay 27 = .ok (.iadd, 1) := by decide +kernel
theorem dX2_pay_28 : decode cX2_pay 28 = .ok (.istore_n 1, 1) := by decide +kernel
theorem dX2_pay_29 : decode cX2_pay 29 = .ok (.iinc 2 1, 3) := by decide +kernel
theorem dX2_pay_32 : decode cX2_pay 32 = .ok (.goto (-28), 3) := by decide +kernel
theorem dX2_pay_35 : decode cX2_pay 35 = .ok (.aload_n 0, 1) := by decide +kernel
theorem dX2_pay_36 : decode cX2_pay 36 = .ok (.getfield 34, 3) := by decide +kernel
theorem dX2_pay_39 : decode cX2_pay 39 = .ok (.iconst 0, 1) := by decide +kernel
theorem dX2_pay_40 : decode cX2_pay 40 = .ok (.putfield 139, 3) := by decide +kernel
theorem dX2_pay_43 : decode cX2_pay 43 = .ok (.iload_n 1, 1) := by decide +kernel
theorem dX2_pay_44 : decode cX2_pay 44 = .ok (.ireturn, 1) := by decide +kernel
theorem dX2_cheap_0 : decode cX2_cheap 0 = .ok (.iload_n 1, 1) := by decide +kernel
theorem dX2_cheap_1 : decode cX2_cheap 1 = .ok (.ifCond .lt 19, 3) := by decide +kernel
theorem dX2_cheap_4 : decode cX2_cheap 4 = .ok (.iload_n 1, 1) := by decide +kernel
theorem dX2_cheap_5 : decode cX2_cheap 5 = .ok (.sipush 400, 3) := by decide +kernel
theorem dX2_cheap_8 : decode cX2_cheap 8 = .ok (.if_icmp .gt 12, 3) := by decide +kernel
theorem dX2_cheap_11 : decode cX2_cheap 11 = .ok (.iload_n 2, 1) := by decide +kernel
theorem dX2_cheap_12 : decode cX2_cheap 12 = .ok (.ifCond .lt 8, 3) := by decide +kernel
theorem dX2_cheap_15 : decode cX2_cheap 15 = .ok (.iload_n 2, 1) := by decide +kernel
theorem dX2_cheap_16 : decode cX2_cheap 16 = .ok (.iconst 1, 1) := by decide +kernel
theorem dX2_cheap_17 : decode cX2_cheap 17 = .ok (.if_icmp .le 6, 3) := by decide +kernel
theorem dX2_cheap_20 : decode cX2_cheap 20 = .ok (.bipush (-102), 2) := by decide +kernel
theorem dX2_cheap_22 : decode cX2_cheap 22 = .ok (.ireturn, 1) := by decide +kernel
theorem dX2_cheap_23 : decode cX2_cheap 23 = .ok (.aload_n 0, 1) := by decide +kernel
theorem dX2_cheap_24 : decode cX2_cheap 24 = .ok (.getfield 22, 3) := by decide +kernel
theorem dX2_cheap_27 : decode cX2_cheap 27 = .ok (.ifCond .ne 6, 3) := by decide +kernel
theorem dX2_cheap_30 : decode cX2_cheap 30 = .ok (.bipush (-103), 2) := by decide +kernel
theorem dX2_cheap_32 : decode cX2_cheap 32 = .ok (.ireturn, 1) := by decide +kernel
theorem dX2_cheap_33 : decode cX2_cheap 33 = .ok (.aload_n 0, 1) := by decide +kernel
theorem dX2_cheap_34 : decode cX2_cheap 34 = .ok (.iload_n 1, 1) := by decide +kernel
theorem dX2_cheap_35 : decode cX2_cheap 35 = .ok (.invokevirtual 148, 3) := by decide +kernel
theorem dX2_cheap_38 : decode cX2_cheap 38 = .ok (.istore_n 3, 1) := by decide +kernel
theorem dX2_cheap_39 : decode cX2_cheap 39 = .ok (.iload_n 3, 1) := by decide +kernel
theorem dX2_cheap_40 : decode cX2_cheap 40 = .ok (.iconst (-1), 1) := by decide +kernel
theorem dX2_cheap_41 : decode cX2_cheap 41 = .ok (.if_icmp .ne 5, 3) := by decide +kernel
theorem dX2_cheap_44 : decode cX2_cheap 44 = .ok (.iconst (-1), 1) := by decide +kernel
theorem dX2_cheap_45 : decode cX2_cheap 45 = .ok (.ireturn, 1) := by decide +kernel
theorem dX2_cheap_46 : decode cX2_cheap 46 = .ok (.iload_n 2, 1) := by decide +kernel
theorem dX2_cheap_47 : decode cX2_cheap 47 = .ok (.ifCond .ne 10, 3) := by decide +kernel
theorem dX2_cheap_50 : decode cX2_cheap 50 = .ok (.iload_n 3, 1) := by decide +kernel
theorem dX2_cheap_51 : decode cX2_cheap 51 = .ok (.invokestatic 151, 3) := by decide +kernel
theorem dX2_cheap_54 : decode cX2_cheap 54 = .ok (.goto 4, 3) := by decide +kernel
theorem dX2_cheap_57 : decode cX2_cheap 57 = .ok (.iload_n 3, 1) := by decide +kernel
theorem dX2_cheap_58 : decode cX2_cheap 58 = .ok (.ireturn, 1) := by decide +kernel
theorem dX2_when_0 : decode cX2_when 0 = .ok (.aload_n 0, 1) := by decide +kernel
theorem dX2_when_1 : decode cX2_when 1 = .ok (.iload_n 1, 1) := by decide +kernel
theorem dX2_when_2 : decode cX2_when 2 = .ok (.invokevirtual 79, 3) := by decide +kernel
theorem dX2_when_5 : decode cX2_when 5 = .ok (.ifCond .ne 6, 3) := by decide +kernel
theorem dX2_when_8 : decode cX2_when 8 = .ok (.bipush (-101), 2) := by decide +kernel
theorem dX2_when_10 : decode cX2_when 10 = .ok (.ireturn, 1) := by decide +kernel
theorem dX2_when_11 : decode cX2_when 11 = .ok (.aload_n 0, 1) := by decide +kernel
theorem dX2_when_12 : decode cX2_when 12 = .ok (.getfield 28, 3) := by decide +kernel
theorem dX2_when_15 : decode cX2_when 15 = .ok (.iload_n 1, 1) := by decide +kernel
theorem dX2_when_16 : decode cX2_when 16 = .ok (.invokevirtual 58, 3) := by decide +kernel
theorem dX2_when_19 : decode cX2_when 19 = .ok (.istore_n 3, 1) := by decide +kernel
theorem dX2_when_20 : decode cX2_when 20 = .ok (.aload_n 0, 1) := by decide +kernel
theorem dX2_when_21 : decode cX2_when 21 = .ok (.getfield 34, 3) := by decide +kernel
theorem dX2_when_24 : decode cX2_when 24 = .ok (.getfield 76, 3) := by decide +kernel
theorem dX2_when_27 : decode cX2_when 27 = .ok (.iload_n 1, 1) := by decide +kernel
theorem dX2_when_28 : decode cX2_when 28 = .ok (.invokevirtual 58, 3) := by decide +kernel
theorem dX2_when_31 : decode cX2_when 31 = .ok (.istore 4, 2) := by decide +kernel
theorem dX2_when_33 : decode cX2_when 33 = .ok (.iconst 0, 1) := by decide +kernel
theorem dX2_when_34 : decode cX2_when 34 = .ok (.istore 5, 2) := by decide +kernel
theorem dX2_when_36 : decode cX2_when 36 = .ok (.iload 5, 2) := by decide +kernel
theorem dX2_when_38 : decode cX2_when 38 = .ok (.bipush 99, 2) := by decide +kernel
theorem dX2_when_40 : decode cX2_when 40 = .ok (.if_icmp .gt 30, 3) := by decide +kernel
theorem dX2_when_43 : decode cX2_when 43 = .ok (.iload_n 3, 1) := by decide +kernel
theorem dX2_when_44 : decode cX2_when 44 = .ok (.iload 4, 2) := by decide +kernel
theorem dX2_when_46 : decode cX2_when 46 = .ok (.invokestatic 156, 3) := by decide +kernel
theorem dX2_when_49 : decode cX2_when 49 = .ok (.iload_n 2, 1) := by decide +kernel
theorem dX2_when_50 : decode cX2_when 50 = .ok (.if_icmp .ne 6, 3) := by decide +kernel
theorem dX2_when_53 : decode cX2_when 53 = .ok (.iload 5, 2) := by decide +kernel
theorem dX2_when_55 : decode cX2_when 55 = .ok (.ireturn, 1) := by decide +kernel
theorem dX2_when_56 : decode cX2_when 56 = .ok (.iload_n 3, 1) := by decide +kernel
theorem dX2_when_57 : decode cX2_when 57 = .ok (.iload 4, 2) := by decide +kernel
theorem dX2_when_59 : decode cX2_when 59 = .ok (.invokestatic 159, 3) := by decide +kernel
theorem dX2_when_62 : decode cX2_when 62 = .ok (.istore 4, 2) := by decide +kernel
theorem dX2_when_64 : decode cX2_when 64 = .ok (.iinc 5 1, 3) := by decide +kernel
theorem dX2_when_67 : decode cX2_when 67 = .ok (.goto (-31), 3) := by decide +kernel
theorem dX2_when_70 : decode cX2_when 70 = .ok (.iconst (-1), 1) := by decide +kernel
theorem dX2_when_71 : decode cX2_when 71 = .ok (.ireturn, 1) := by decide +kernel
theorem dX2_hear_0 : decode cX2_hear 0 = .ok (.aload_n 0, 1) := by decide +kernel
theorem dX2_hear_1 : decode cX2_hear 1 = .ok (.iload_n 1, 1) := by decide +kernel
theorem dX2_hear_2 : decode cX2_hear 2 = .ok (.invokevirtual 79, 3) := by decide +kernel
theorem dX2_hear_5 : decode cX2_hear 5 = .ok (.ifCond .ne 6, 3) := by decide +kernel
theorem dX2_hear_8 : decode cX2_hear 8 = .ok (.bipush (-101), 2) := by decide +kernel
theorem dX2_hear_10 : decode cX2_hear 10 = .ok (.ireturn, 1) := by decide +kernel
theorem dX2_hear_11 : decode cX2_hear 11 = .ok (.iload_n 2, 1) := by decide +kernel
theorem dX2_hear_12 : decode cX2_hear 12 = .ok (.ifCond .lt 9, 3) := by decide +kernel
theorem dX2_hear_15 : decode cX2_hear 15 = .ok (.iload_n 2, 1) := by decide +kernel
theorem dX2_hear_16 : decode cX2_hear 16 = .ok (.bipush 99, 2) := by decide +kernel
theorem dX2_hear_18 : decode cX2_hear 18 = .ok (.if_icmp .le 6, 3) := by decide +kernel
theorem dX2_hear_21 : decode cX2_hear 21 = .ok (.bipush (-102), 2) := by decide +kernel
theorem dX2_hear_23 : decode cX2_hear 23 = .ok (.ireturn, 1) := by decide +kernel
theorem dX2_hear_24 : decode cX2_hear 24 = .ok (.aload_n 0, 1) := by decide +kernel
theorem dX2_hear_25 : decode cX2_hear 25 = .ok (.getfield 34, 3) := by decide +kernel
theorem dX2_hear_28 : decode cX2_hear 28 = .ok (.getfield 162, 3) := by decide +kernel
theorem dX2_hear_31 : decode cX2_hear 31 = .ok (.bipush 6, 2) := by decide +kernel
theorem dX2_hear_33 : decode cX2_hear 33 = .ok (.if_icmp .lt 6, 3) := by decide +kernel
theorem dX2_hear_36 : decode cX2_hear 36 = .ok (.bipush (-104), 2) := by decide +kernel
theorem dX2_hear_38 : decode cX2_hear 38 = .ok (.ireturn, 1) := by decide +kernel
theorem dX2_hear_39 : decode cX2_hear 39 = .ok (.aload_n 0, 1) := by decide +kernel
theorem dX2_hear_40 : decode cX2_hear 40 = .ok (.getfield 34, 3) := by decide +kernel
theorem dX2_hear_43 : decode cX2_hear 43 = .ok (.getfield 165, 3) := by decide +kernel
theorem dX2_hear_46 : decode cX2_hear 46 = .ok (.aload_n 0, 1) := by decide +kernel
theorem dX2_hear_47 : decode cX2_hear 47 = .ok (.getfield 34, 3) := by decide +kernel
theorem dX2_hear_50 : decode cX2_hear 50 = .ok (.getfield 162, 3) := by decide +kernel
theorem dX2_hear_53 : decode cX2_hear 53 = .ok (.iload_n 1, 1) := by decide +kernel
theorem dX2_hear_54 : decode cX2_hear 54 = .ok (.invokevirtual 54, 3) := by decide +kernel
theorem dX2_hear_57 : decode cX2_hear 57 = .ok (.aload_n 0, 1) := by decide +kernel
theorem dX2_hear_58 : decode cX2_hear 58 = .ok (.getfield 34, 3) := by decide +kernel
theorem dX2_hear_61 : decode cX2_hear 61 = .ok (.getfield 168, 3) := by decide +kernel
theorem dX2_hear_64 : decode cX2_hear 64 = .ok (.aload_n 0, 1) := by decide +kernel
theorem dX2_hear_65 : decode cX2_hear 65 = .ok (.getfield 34, 3) := by decide +kernel
theorem dX2_hear_68 : decode cX2_hear 68 = .ok (.getfield 162, 3) := by decide +kernel
theorem dX2_hear_71 : decode cX2_hear 71 = .ok (.iload_n 2, 1) := by decide +kernel
theorem dX2_hear_72 : decode cX2_hear 72 = .ok (.invokevirtual 54, 3) := by decide +kernel
theorem dX2_hear_75 : decode cX2_hear 75 = .ok (.aload_n 0, 1) := by decide +kernel
theorem dX2_hear_76 : decode cX2_hear 76 = .ok (.getfield 34, 3) := by decide +kernel
theorem dX2_hear_79 : decode cX2_hear 79 = .ok (.dup, 1) := by decide +kernel
theorem dX2_hear_80 : decode cX2_hear 80 = .ok (.getfield 162, 3) := by decide +kernel
theorem dX2_hear_83 : decode cX2_hear 83 = .ok (.iconst 1, 1) := by decide +kernel
theorem dX2_hear_84 : decode cX2_hear 84 = .ok (.iadd, 1) := by decide +kernel
theorem dX2_hear_85 : decode cX2_hear 85 = .ok (.putfield 162, 3) := by decide +kernel
theorem dX2_hear_88 : decode cX2_hear 88 = .ok (.aload_n 0, 1) := by decide +kernel
theorem dX2_hear_89 : decode cX2_hear 89 = .ok (.getfield 34, 3) := by decide +kernel
theorem dX2_hear_92 : decode cX2_hear 92 = .ok (.getfield 162, 3) := by decide +kernel
theorem dX2_hear_95 : decode cX2_hear 95 = .ok (.ireturn, 1) := by decide +kernel
theorem dX2_forget_0 : decode cX2_forget 0 = .ok (.aload_n 0, 1) := by decide +kernel
theorem dX2_forget_1 : decode cX2_forget 1 = .ok (.getfield 34, 3) := by decide +kernel
theorem dX2_forget_4 : decode cX2_forget 4 = .ok (.getfield 162, 3) := by decide +kernel
theorem dX2_forget_7 : decode cX2_forget 7 = .ok (.istore_n 1, 1) := by decide +kernel
theorem dX2_forget_8 : decode cX2_forget 8 = .ok (.aload_n 0, 1) := by decide +kernel
theorem dX2_forget_9 : decode cX2_forget 9 = .ok (.getfield 34, 3) := by decide +kernel
theorem dX2_forget_12 : decode cX2_forget 12 = .ok (.iconst 0, 1) := by decide +kernel
theorem dX2_forget_13 : decode cX2_forget 13 = .ok (.putfield 162, 3) := by decide +kernel
theorem dX2_forget_16 : decode cX2_forget 16 = .ok (.iload_n 1, 1) := by decide +kernel
theorem dX2_forget_17 : decode cX2_forget 17 = .ok (.ireturn, 1) := by decide +kernel
theorem dX2_days_0 : decode cX2_days 0 = .ok (.iload_n 1, 1) := by decide +kernel
theorem dX2_days_1 : decode cX2_days 1 = .ok (.ifCond .lt 8, 3) := by decide +kernel
theorem dX2_days_4 : decode cX2_days 4 = .ok (.iload_n 1, 1) := by decide +kernel
theorem dX2_days_5 : decode cX2_days 5 = .ok (.iconst 1, 1) := by decide +kernel
theorem dX2_days_6 : decode cX2_days 6 = .ok (.if_icmp .le 6, 3) := by decide +kernel
theorem dX2_days_9 : decode cX2_days 9 = .ok (.bipush (-102), 2) := by decide +kernel
theorem dX2_days_11 : decode cX2_days 11 = .ok (.ireturn, 1) := by decide +kernel
theorem dX2_days_12 : decode cX2_days 12 = .ok (.aload_n 0, 1) := by decide +kernel
theorem dX2_days_13 : decode cX2_days 13 = .ok (.getfield 22, 3) := by decide +kernel
theorem dX2_days_16 : decode cX2_days 16 = .ok (.ifCond .ne 6, 3) := by decide +kernel
theorem dX2_days_19 : decode cX2_days 19 = .ok (.bipush (-103), 2) := by decide +kernel
theorem dX2_days_21 : decode cX2_days 21 = .ok (.ireturn, 1) := by decide +kernel
theorem dX2_days_22 : decode cX2_days 22 = .ok (.iconst 0, 1) := by decide +kernel
theorem dX2_days_23 : decode cX2_days 23 = .ok (.istore_n 2, 1) := by decide +kernel
theorem dX2_days_24 : decode cX2_days 24 = .ok (.iconst (-1), 1) := by decide +kernel
theorem dX2_days_25 : decode cX2_days 25 = .ok (.istore_n 3, 1) := by decide +kernel
theorem dX2_days_26 : decode cX2_days 26 = .ok (.aload_n 0, 1) := by decide +kernel
theorem dX2_days_27 : decode cX2_days 27 = .ok (.getfield 34, 3) := by decide +kernel
theorem dX2_days_30 : decode cX2_days 30 = .ok (.getfield 112, 3) := by decide +kernel
theorem dX2_days_33 : decode cX2_days 33 = .ok (.istore 4, 2) := by decide +kernel
theorem dX2_days_35 : decode cX2_days 35 = .ok (.iload 4, 2) := by decide +kernel
theorem dX2_days_37 : decode cX2_days 37 = .ok (.ifCond .lt 24, 3) := by decide +kernel
theorem dX2_days_40 : decode cX2_days 40 = .ok (.aload_n 0, 1) := by decide +kernel
theorem dX2_days_41 : decode cX2_days 41 = .ok (.iload 4, 2) := by decide +kernel
theorem dX2_days_43 : decode cX2_days 43 = .ok (.invokevirtual 171, 3) := by decide +kernel
theorem dX2_days_46 : decode cX2_days 46 = .ok (.ifCond .eq 9, 3) := by decide +kernel
theorem dX2_days_49 : decode cX2_days 49 = .ok (.iinc 2 1, 3) := by decide +kernel
theorem dX2_days_52 : decode cX2_days 52 = .ok (.iload 4, 2) := by decide +kernel
theorem dX2_days_54 : decode cX2_days 54 = .ok (.istore_n 3, 1) := by decide +kernel
theorem dX2_days_55 : decode cX2_days 55 = .ok (.iinc 4 (-1), 3) := by decide +kernel
theorem dX2_days_58 : decode cX2_days 58 = .ok (.goto (-23), 3) := by decide +kernel
theorem dX2_days_61 : decode cX2_days 61 = .ok (.iload_n 1, 1) := by decide +kernel
theorem dX2_days_62 : decode cX2_days 62 = .ok (.ifCond .ne 7, 3) := by decide +kernel
theorem dX2_days_65 : decode cX2_days 65 = .ok (.iload_n 2, 1) := by decide +kernel
theorem dX2_days_66 : decode cX2_days 66 = .ok (.goto 4, 3) := by decide +kernel
theorem dX2_days_69 : decode cX2_days 69 = .ok (.iload_n 3, 1) := by decide +kernel
theorem dX2_days_70 : decode cX2_days 70 = .ok (.ireturn, 1) := by decide +kernel
theorem dX2_ask_0 : decode cX2_ask 0 = .ok (.aload_n 0, 1) := by decide +kernel
theorem dX2_ask_1 : decode cX2_ask 1 = .ok (.getfield 22, 3) := by decide +kernel
theorem dX2_ask_4 : decode cX2_ask 4 = .ok (.ifCond .ne 6, 3) := by decide +kernel
theorem dX2_ask_7 : decode cX2_ask 7 = .ok (.bipush (-103), 2) := by decide +kernel
theorem dX2_ask_9 : decode cX2_ask 9 = .ok (.ireturn, 1) := by decide +kernel
theorem dX2_ask_10 : decode cX2_ask 10 = .ok (.aload_n 0, 1) := by decide +kernel
theorem dX2_ask_11 : decode cX2_ask 11 = .ok (.invokevirtual 174, 3) := by decide +kernel
theorem dX2_ask_14 : decode cX2_ask 14 = .ok (.ifCond .ne 5, 3) := by decide +kernel
theorem dX2_ask_17 : decode cX2_ask 17 = .ok (.iconst (-1), 1) := by decide +kernel
theorem dX2_ask_18 : decode cX2_ask 18 = .ok (.ireturn, 1) := by decide +kernel
theorem dX2_ask_19 : decode cX2_ask 19 = .ok (.iconst (-1), 1) := by decide +kernel
theorem dX2_ask_20 : decode cX2_ask 20 = .ok (.istore_n 1, 1) := by decide +kernel
theorem dX2_ask_21 : decode cX2_ask 21 = .ok (.iconst 0, 1) := by decide +kernel
theorem dX2_ask_22 : decode cX2_ask 22 = .ok (.istore_n 2, 1) := by decide +kernel
theorem dX2_ask_23 : decode cX2_ask 23 = .ok (.iconst 0, 1) := by decide +kernel
theorem dX2_ask_24 : decode cX2_ask 24 = .ok (.istore_n 3, 1) := by decide +kernel
theorem dX2_ask_25 : decode cX2_ask 25 = .ok (.iload_n 3, 1) := by decide +kernel
theorem dX2_ask_26 : decode cX2_ask 26 = .ok (.aload_n 0, 1) := by decide +kernel
theorem dX2_ask_27 : decode cX2_ask 27 = .ok (.getfield 22, 3) := by decide +kernel
theorem dX2_ask_30 : decode cX2_ask 30 = .ok (.if_icmp .ge 32, 3) := by decide +kernel
theorem dX2_ask_33 : decode cX2_ask 33 = .ok (.aload_n 0, 1) := by decide +kernel
theorem dX2_ask_34 : decode cX2_ask 34 = .ok (.iload_n 3, 1) := by decide +kernel
theorem dX2_ask_35 : decode cX2_ask 35 = .ok (.invokevirtual 177, 3) := by decide +kernel
theorem dX2_ask_38 : decode cX2_ask 38 = .ok (.istore 4, 2) := by decide +kernel
theorem dX2_ask_40 : decode cX2_ask 40 = .ok (.iload_n 1, 1) := by decide +kernel
theorem dX2_ask_41 : decode cX2_ask 41 = .ok (.iconst (-1), 1) := by decide +kernel
theorem dX2_ask_42 : decode cX2_ask 42 = .ok (.if_icmp .eq 9, 3) := by decide +kernel
theorem dX2_ask_45 : decode cX2_ask 45 = .ok (.iload 4, 2) := by decide +kernel
theorem dX2_ask_47 : decode cX2_ask 47 = .ok (.iload_n 2, 1) := by decide +kernel
theorem dX2_ask_48 : decode cX2_ask 48 = .ok (.if_icmp .ge 8, 3) := by decide +kernel
theorem dX2_ask_51 : decode cX2_ask 51 = .ok (.iload_n 3, 1) := by decide +kernel
theorem dX2_ask_52 : decode cX2_ask 52 = .ok (.istore_n 1, 1) := by decide +kernel
theorem dX2_ask_53 : decode cX2_ask 53 = .ok (.iload 4, 2) := by decide +kernel
theorem dX2_ask_55 : decode cX2_ask 55 = .ok (.istore_n 2, 1) := by decide +kernel
theorem dX2_ask_56 : decode cX2_ask 56 = .ok (.iinc 3 1, 3) := by decide +kernel
theorem dX2_ask_59 : decode cX2_ask 59 = .ok (.goto (-34), 3) := by decide +kernel
theorem dX2_ask_62 : decode cX2_ask 62 = .ok (.iload_n 1, 1) := by decide +kernel
theorem dX2_ask_63 : decode cX2_ask 63 = .ok (.ireturn, 1) := by decide +kernel
theorem dX2_years_0 : decode cX2_years 0 = .ok (.iload_n 1, 1) := by decide +kernel
theorem dX2_years_1 : decode cX2_years 1 = .ok (.iconst 1, 1) := by decide +kernel
theorem dX2_years_2 : decode cX2_years 2 = .ok (.if_icmp .lt 22, 3) := by decide +kernel
theorem dX2_years_5 : decode cX2_years 5 = .ok (.iload_n 1, 1) := by decide +kernel
theorem dX2_years_6 : decode cX2_years 6 = .ok (.bipush 60, 2) := by decide +kernel
theorem dX2_years_8 : decode cX2_years 8 = .ok (.if_icmp .gt 16, 3) := by decide +kernel
theorem dX2_years_11 : decode cX2_years 11 = .ok (.iload_n 2, 1) := by decide +kernel
theorem dX2_years_12 : decode cX2_years 12 = .ok (.ifCond .lt 12, 3) := by decide +kernel
theorem dX2_years_15 : decode cX2_years 15 = .ok (.iload_n 3, 1) := by decide +kernel
theorem dX2_years_16 : decode cX2_years 16 = .ok (.ifCond .lt 8, 3) := by decide +kernel
theorem dX2_years_19 : decode cX2_years 19 = .ok (.iload_n 3, 1) := by decide +kernel
theorem dX2_years_20 : decode cX2_years 20 = .ok (.iconst 2, 1) := by decide +kernel
theorem dX2_years_21 : decode cX2_years 21 = .ok (.if_icmp .le 6, 3) := by decide +kernel
theorem dX2_years_24 : decode cX2_years 24 = .ok (.bipush (-102), 2) := by decide +kernel
theorem dX2_years_26 : decode cX2_years 26 = .ok (.ireturn, 1) := by decide +kernel
theorem dX2_years_27 : decode cX2_years 27 = .ok (.aload_n 0, 1) := by decide +kernel
theorem dX2_years_28 : decode cX2_years 28 = .ok (.getfield 22, 3) := by decide +kernel
theorem dX2_years_31 : decode cX2_years 31 = .ok (.ifCond .ne 6, 3) := by decide +kernel
theorem dX2_years_34 : decode cX2_years 34 = .ok (.bipush (-103), 2) := by decide +kernel
theorem dX2_years_36 : decode cX2_years 36 = .ok (.ireturn, 1) := by decide +kernel
theorem dX2_years_37 : decode cX2_years 37 = .ok (.aload_n 0, 1) := by decide +kernel
theorem dX2_years_38 : decode cX2_years 38 = .ok (.getfield 45, 3) := by decide +kernel
theorem dX2_years_41 : decode cX2_years 41 = .ok (.aload_n 0, 1) := by decide +kernel
theorem dX2_years_42 : decode cX2_years 42 = .ok (.getfield 34, 3) := by decide +kernel
theorem dX2_years_45 : decode cX2_years 45 = .ok (.getfield 76, 3) := by decide +kernel
theorem dX2_years_48 : decode cX2_years 48 = .ok (.invokevirtual 180, 3) := by decide +kernel
theorem dX2_years_51 : decode cX2_years 51 = .ok (.iload_n 2, 1) := by decide +kernel
theorem dX2_years_52 : decode cX2_years 52 = .ok (.istore 4, 2) := by decide +kernel
theorem dX2_years_54 : decode cX2_years 54 = .ok (.iconst 0, 1) := by decide +kernel
theorem dX2_years_55 : decode cX2_years 55 = .ok (.istore 5, 2) := by decide +kernel
theorem dX2_years_57 : decode cX2_years 57 = .ok (.iconst 0, 1) := by decide +kernel
theorem dX2_years_58 : decode cX2_years 58 = .ok (.istore 6, 2) := by decide +kernel
theorem dX2_years_60 : decode cX2_years 60 = .ok (.iload 6, 2) := by decide +kernel
theorem dX2_years_62 : decode cX2_years 62 = .ok (.iload_n 1, 1) := by decide +kernel
theorem dX2_years_63 : decode cX2_years 63 = .ok (.if_icmp .ge 51, 3) := by decide +kernel
theorem dX2_years_66 : decode cX2_years 66 = .ok (.iload 4, 2) := by decide +kernel
theorem dX2_years_68 : decode cX2_years 68 = .ok (.invokestatic 183, 3) := by decide +kernel
theorem dX2_years_71 : decode cX2_years 71 = .ok (.istore 4, 2) := by decide +kernel
theorem dX2_years_73 : decode cX2_years 73 = .ok (.aload_n 0, 1) := by decide +kernel
theorem dX2_years_74 : decode cX2_years 74 = .ok (.aload_n 0, 1) := by decide +kernel
theorem dX2_years_75 : decode cX2_years 75 = .ok (.getfield 45, 3) := by decide +kernel
theorem dX2_years_78 : decode cX2_years 78 = .ok (.aload_n 0, 1) := by decide +kernel
theorem dX2_years_79 : decode cX2_years 79 = .ok (.iload 4, 2) := by decide +kernel
theorem dX2_years_81 : decode cX2_years 81 = .ok (.invokevirtual 186, 3) := by decide +kernel
theorem dX2_years_84 : decode cX2_years 84 = .ok (.invokevirtual 189, 3) := by decide +kernel
theorem dX2_years_87 : decode cX2_years 87 = .ok (.iload 5, 2) := by decide +kernel
theorem dX2_years_89 : decode cX2_years 89 = .ok (.aload_n 0, 1) := by decide +kernel
theorem dX2_years_90 : decode cX2_years 90 = .ok (.aload_n 0, 1) := by decide +kernel
theorem dX2_years_91 : decode cX2_years 91 = .ok (.getfield 45, 3) := by decide +kernel
theorem dX2_years_94 : decode cX2_years 94 = .ok (.invokevirtual 135, 3) := by decide +kernel
theorem dX2_years_97 : decode cX2_years 97 = .ok (.iadd, 1) := by decide +kernel
theorem dX2_years_98 : decode cX2_years 98 = .ok (.istore 5, 2) := by decide +kernel
theorem dX2_years_100 : decode cX2_years 100 = .ok (.aload_n 0, 1) := by decide +kernel
theorem dX2_years_101 : decode cX2_years 101 = .ok (.aload_n 0, 1) := by decide +kernel
theorem dX2_years_102 : decode cX2_years 102 = .ok (.getfield 45, 3) := by decide +kernel
theorem dX2_years_105 : decode cX2_years 105 = .ok (.invokevirtual 122, 3) := by decide +kernel
theorem dX2_years_108 : decode cX2_years 108 = .ok (.iinc 6 1, 3) := by decide +kernel
theorem dX2_years_111 : decode cX2_years 111 = .ok (.goto (-51), 3) := by decide +kernel
theorem dX2_years_114 : decode cX2_years 114 = .ok (.iload_n 3, 1) := by decide +kernel
theorem dX2_years_115 : decode cX2_years 115 = .ok (.ifCond .ne 6, 3) := by decide +kernel
theorem dX2_years_118 : decode cX2_years 118 = .ok (.iload 5, 2) := by decide +kernel
theorem dX2_years_120 : decode cX2_years 120 = .ok (.ireturn, 1) := by decide +kernel
theorem dX2_years_121 : decode cX2_years 121 = .ok (.iload_n 3, 1) := by decide +kernel
theorem dX2_years_122 : decode cX2_years 122 = .ok (.iconst 1, 1) := by decide +kernel
theorem dX2_years_123 : decode cX2_years 123 = .ok (.if_icmp .ne 14, 3) := by decide +kernel
theorem dX2_years_126 : decode cX2_years 126 = .ok (.aload_n 0, 1) := by decide +kernel
theorem dX2_years_127 : decode cX2_years 127 = .ok (.aload_n 0, 1) := by decide +kernel
theorem dX2_years_128 : decode cX2_years 128 = .ok (.getfield 45, 3) := by decide +kernel
theorem dX2_years_131 : decode cX2_years 131 = .ok (.invokevirtual 192, 3) := by decide +kernel
theorem dX2_years_134 : decode cX2_years 134 = .ok (.goto 5, 3) := by decide +kernel
theorem dX2_years_137 : decode cX2_years 137 = .ok (.iload 4, 2) := by decide +kernel
theorem dX2_years_139 : decode cX2_years 139 = .ok (.ireturn, 1) := by decide +kernel
theorem dX2_image_0 : decode cX2_image 0 = .ok (.aload_n 0, 1) := by decide +kernel
theorem dX2_image_1 : decode cX2_image 1 = .ok (.getfield 22, 3) := by decide +kernel
theorem dX2_image_4 : decode cX2_image 4 = .ok (.ifCond .ne 6, 3) := by decide +kernel
theorem dX2_image_7 : decode cX2_image 7 = .ok (.bipush (-103), 2) := by decide +kernel
theorem dX2_image_9 : decode cX2_image 9 = .ok (.ireturn, 1) := by decide +kernel
theorem dX2_image_10 : decode cX2_image 10 = .ok (.aload_n 0, 1) := by decide +kernel
theorem dX2_image_11 : decode cX2_image 11 = .ok (.getfield 38, 3) := by decide +kernel
theorem dX2_image_14 : decode cX2_image 14 = .ok (.aload_n 0, 1) := by decide +kernel
theorem dX2_image_15 : decode cX2_image 15 = .ok (.getfield 34, 3) := by decide +kernel
theorem dX2_image_18 : decode cX2_image 18 = .ok (.invokevirtual 195, 3) := by decide +kernel
theorem dX2_image_21 : decode cX2_image 21 = .ok (.aload_n 0, 1) := by decide +kernel
theorem dX2_image_22 : decode cX2_image 22 = .ok (.iconst 1, 1) := by decide +kernel
theorem dX2_image_23 : decode cX2_image 23 = .ok (.putfield 41, 3) := by decide +kernel
theorem dX2_image_26 : decode cX2_image 26 = .ok (.aload_n 0, 1) := by decide +kernel
theorem dX2_image_27 : decode cX2_image 27 = .ok (.getfield 34, 3) := by decide +kernel
theorem dX2_image_30 : decode cX2_image 30 = .ok (.getfield 112, 3) := by decide +kernel
theorem dX2_image_33 : decode cX2_image 33 = .ok (.ireturn, 1) := by decide +kernel
theorem dX2_restore_0 : decode cX2_restore 0 = .ok (.aload_n 0, 1) := by decide +kernel
theorem dX2_restore_1 : decode cX2_restore 1 = .ok (.getfield 41, 3) := by decide +kernel
theorem dX2_restore_4 : decode cX2_restore 4 = .ok (.ifCond .ne 6, 3) := by decide +kernel
theorem dX2_restore_7 : decode cX2_restore 7 = .ok (.bipush (-103), 2) := by decide +kernel
theorem dX2_restore_9 : decode cX2_restore 9 = .ok (.ireturn, 1) := by decide +kernel
theorem dX2_restore_10 : decode cX2_restore 10 = .ok (.aload_n 0, 1) := by decide +kernel
theorem dX2_restore_11 : decode cX2_restore 11 = .ok (.getfield 34, 3) := by decide +kernel
theorem dX2_restore_14 : decode cX2_restore 14 = .ok (.aload_n 0, 1) := by decide +kernel
theorem dX2_restore_15 : decode cX2_restore 15 = .ok (.getfield 38, 3) := by decide +kernel
theorem dX2_restore_18 : decode cX2_restore 18 = .ok (.invokevirtual 195, 3) := by decide +kernel
theorem dX2_restore_21 : decode cX2_restore 21 = .ok (.aload_n 0, 1) := by decide +kernel
theorem dX2_restore_22 : decode cX2_restore 22 = .ok (.getfield 34, 3) := by decide +kernel
theorem dX2_restore_25 : decode cX2_restore 25 = .ok (.getfield 112, 3) := by decide +kernel
theorem dX2_restore_28 : decode cX2_restore 28 = .ok (.ireturn, 1) := by decide +kernel
theorem dX2_count_0 : decode cX2_count 0 = .ok (.iload_n 1, 1) := by decide +kernel
theorem dX2_count_1 : decode cX2_count 1 = .ok (.tableswitch 124 0 9 #[55, 60, 68, 76, 88, 93, 101, 106, 114, 119], 55) := by decide +kernel
theorem dX2_count_56 : decode cX2_count 56 = .ok (.aload_n 0, 1) := by decide +kernel
theorem dX2_count_57 : decode cX2_count 57 = .ok (.getfield 22, 3) := by decide +kernel
theorem dX2_count_60 : decode cX2_count 60 = .ok (.ireturn, 1) := by decide +kernel
theorem dX2_count_61 : decode cX2_count 61 = .ok (.aload_n 0, 1) := by decide +kernel
theorem dX2_count_62 : decode cX2_count 62 = .ok (.getfield 34, 3) := by decide +kernel
theorem dX2_count_65 : decode cX2_count 65 = .ok (.getfield 112, 3) := by decide +kernel
theorem dX2_count_68 : decode cX2_count 68 = .ok (.ireturn, 1) := by decide +kernel
theorem dX2_count_69 : decode cX2_count 69 = .ok (.aload_n 0, 1) := by decide +kernel
theorem dX2_count_70 : decode cX2_count 70 = .ok (.getfield 34, 3) := by decide +kernel
theorem dX2_count_73 : decode cX2_count 73 = .ok (.getfield 103, 3) := by decide +kernel
theorem dX2_count_76 : decode cX2_count 76 = .ok (.ireturn, 1) := by decide +kernel
theorem dX2_count_77 : decode cX2_count 77 = .ok (.aload_n 0, 1) := by decide +kernel
theorem dX2_count_78 : decode cX2_count 78 = .ok (.aload_n 0, 1) := by decide +kernel
theorem dX2_count_79 : decode cX2_count 79 = .ok (.getfield 34, 3) := by decide +kernel
theorem dX2_count_82 : decode cX2_count 82 = .ok (.getfield 76, 3) := by decide +kernel
theorem dX2_count_85 : decode cX2_count 85 = .ok (.invokevirtual 192, 3) := by decide +kernel
theorem dX2_count_88 : decode cX2_count 88 = .ok (.ireturn, 1) := by decide +kernel
theorem dX2_count_89 : decode cX2_count 89 = .ok (.aload_n 0, 1) := by decide +kernel
theorem dX2_count_90 : decode cX2_count 90 = .ok (.invokevirtual 198, 3) := by decide +kernel
theorem dX2_count_93 : decode cX2_count 93 = .ok (.ireturn, 1) := by decide +kernel
theorem dX2_count_94 : decode cX2_count 94 = .ok (.aload_n 0, 1) := by decide +kernel
theorem dX2_count_95 : decode cX2_count 95 = .ok (.getfield 34, 3) := by decide +kernel
theorem dX2_count_98 : decode cX2_count 98 = .ok (.getfield 139, 3) := by decide +kernel
theorem dX2_count_101 : decode cX2_count 101 = .ok (.ireturn, 1) := by decide +kernel
theorem dX2_count_102 : decode cX2_count 102 = .ok (.aload_n 0, 1) := by decide +kernel
theorem dX2_count_103 : decode cX2_count 103 = .ok (.invokevirtual 201, 3) := by decide +kernel
theorem dX2_count_106 : decode cX2_count 106 = .ok (.ireturn, 1) := by decide +kernel
theorem dX2_count_107 : decode cX2_count 107 = .ok (.aload_n 0, 1) := by decide +kernel
theorem dX2_count_108 : decode cX2_count 108 = .ok (.getfield 34, 3) := by decide +kernel
theorem dX2_count_111 : decode cX2_count 111 = .ok (.getfield 162, 3) := by decide +kernel
theorem dX2_count_114 : decode cX2_count 114 = .ok (.ireturn, 1) := by decide +kernel
theorem dX2_count_115 : decode cX2_count 115 = .ok (.aload_n 0, 1) := by decide +kernel
theorem dX2_count_116 : decode cX2_count 116 = .ok (.getfield 18, 3) := by decide +kernel
theorem dX2_count_119 : decode cX2_count 119 = .ok (.ireturn, 1) := by decide +kernel
theorem dX2_count_120 : decode cX2_count 120 = .ok (.aload_n 0, 1) := by decide +kernel
theorem dX2_count_121 : decode cX2_count 121 = .ok (.getfield 25, 3) := by decide +kernel
theorem dX2_count_124 : decode cX2_count 124 = .ok (.ireturn, 1) := by decide +kernel
theorem dX2_count_125 : decode cX2_count 125 = .ok (.bipush (-102), 2) := by decide +kernel
theorem dX2_count_127 : decode cX2_count 127 = .ok (.ireturn, 1) := by decide +kernel
theorem dX2_digest_0 : decode cX2_digest 0 = .ok (.ldc2_w 204, 3) := by decide +kernel
theorem dX2_digest_3 : decode cX2_digest 3 = .ok (.lstore_n 1, 1) := by decide +kernel
theorem dX2_digest_4 : decode cX2_digest 4 = .ok (.iconst 0, 1) := by decide +kernel
theorem dX2_digest_5 : decode cX2_digest 5 = .ok (.istore_n 3, 1) := by decide +kernel
theorem dX2_digest_6 : decode cX2_digest 6 = .ok (.iload_n 3, 1) := by decide +kernel
theorem dX2_digest_7 : decode cX2_digest 7 = .ok (.aload_n 0, 1) := by decide +kernel
theorem dX2_digest_8 : decode cX2_digest 8 = .ok (.getfield 22, 3) := by decide +kernel
theorem dX2_digest_11 : decode cX2_digest 11 = .ok (.if_icmp .ge 16, 3) := by decide +kernel
theorem dX2_digest_14 : decode cX2_digest 14 = .ok (.aload_n 0, 1) := by decide +kernel
theorem dX2_digest_15 : decode cX2_digest 15 = .ok (.lload_n 1, 1) := by decide +kernel
theorem dX2_digest_16 : decode cX2_digest 16 = .ok (.iload_n 3, 1) := by decide +kernel
theorem dX2_digest_17 : decode cX2_digest 17 = .ok (.invokevirtual 206, 3) := by decide +kernel
theorem dX2_digest_20 : decode cX2_digest 20 = .ok (.lstore_n 1, 1) := by decide +kernel
theorem dX2_digest_21 : decode cX2_digest 21 = .ok (.iinc 3 1, 3) := by decide +kernel
theorem dX2_digest_24 : decode cX2_digest 24 = .ok (.goto (-18), 3) := by decide +kernel
theorem dX2_digest_27 : decode cX2_digest 27 = .ok (.aload_n 0, 1) := by decide +kernel
theorem dX2_digest_28 : decode cX2_digest 28 = .ok (.getfield 22, 3) := by decide +kernel
theorem dX2_digest_31 : decode cX2_digest 31 = .ok (.ifCond .le 65, 3) := by decide +kernel
theorem dX2_digest_34 : decode cX2_digest 34 = .ok (.lload_n 1, 1) := by decide +kernel
theorem dX2_digest_35 : decode cX2_digest 35 = .ok (.aload_n 0, 1) := by decide +kernel
theorem dX2_digest_36 : decode cX2_digest 36 = .ok (.invokevirtual 210, 3) := by decide +kernel
theorem dX2_digest_39 : decode cX2_digest 39 = .ok (.invokestatic 213, 3) := by decide +kernel
theorem dX2_digest_42 : decode cX2_digest 42 = .ok (.lstore_n 1, 1) := by decide +kernel
theorem dX2_digest_43 : decode cX2_digest 43 = .ok (.lload_n 1, 1) := by decide +kernel
theorem dX2_digest_44 : decode cX2_digest 44 = .ok (.aload_n 0, 1) := by decide +kernel
theorem dX2_digest_45 : decode cX2_digest 45 = .ok (.bipush 9, 2) := by decide +kernel
theorem dX2_digest_47 : decode cX2_digest 47 = .ok (.iconst 0, 1) := by decide +kernel
theorem dX2_digest_48 : decode cX2_digest 48 = .ok (.invokevirtual 216, 3) := by decide +kernel
theorem dX2_digest_51 : decode cX2_digest 51 = .ok (.invokestatic 213, 3) := by decide +kernel
theorem dX2_digest_54 : decode cX2_digest 54 = .ok (.lstore_n 1, 1) := by decide +kernel
theorem dX2_digest_55 : decode cX2_digest 55 = .ok (.lload_n 1, 1) := by decide +kernel
theorem dX2_digest_56 : decode cX2_digest 56 = .ok (.aload_n 0, 1) := by decide +kernel
theorem dX2_digest_57 : decode cX2_digest 57 = .ok (.bipush 9, 2) := by decide +kernel
theorem dX2_digest_59 : decode cX2_digest 59 = .ok (.iconst 1, 1) := by decide +kernel
theorem dX2_digest_60 : decode cX2_digest 60 = .ok (.invokevirtual 216, 3) := by decide +kernel
theorem dX2_digest_63 : decode cX2_digest 63 = .ok (.invokestatic 213, 3) := by decide +kernel
theorem dX2_digest_66 : decode cX2_digest 66 = .ok (.lstore_n 1, 1) := by decide +kernel
theorem dX2_digest_67 : decode cX2_digest 67 = .ok (.lload_n 1, 1) := by decide +kernel
theorem dX2_digest_68 : decode cX2_digest 68 = .ok (.aload_n 0, 1) := by decide +kernel
theorem dX2_digest_69 : decode cX2_digest 69 = .ok (.iconst 0, 1) := by decide +kernel
theorem dX2_digest_70 : decode cX2_digest 70 = .ok (.invokevirtual 219, 3) := by decide +kernel
theorem dX2_digest_73 : decode cX2_digest 73 = .ok (.invokestatic 213, 3) := by decide +kernel
theorem dX2_digest_76 : decode cX2_digest 76 = .ok (.lstore_n 1, 1) := by decide +kernel
theorem dX2_digest_77 : decode cX2_digest 77 = .ok (.lload_n 1, 1) := by decide +kernel
theorem dX2_digest_78 : decode cX2_digest 78 = .ok (.aload_n 0, 1) := by decide +kernel
theorem dX2_digest_79 : decode cX2_digest 79 = .ok (.iconst 1, 1) := by decide +kernel
theorem dX2_digest_80 : decode cX2_digest 80 = .ok (.invokevirtual 219, 3) := by decide +kernel
theorem dX2_digest_83 : decode cX2_digest 83 = .ok (.invokestatic 213, 3) := by decide +kernel
theorem dX2_digest_86 : decode cX2_digest 86 = .ok (.lstore_n 1, 1) := by decide +kernel
theorem dX2_digest_87 : decode cX2_digest 87 = .ok (.lload_n 1, 1) := by decide +kernel
theorem dX2_digest_88 : decode cX2_digest 88 = .ok (.aload_n 0, 1) := by decide +kernel
theorem dX2_digest_89 : decode cX2_digest 89 = .ok (.invokevirtual 222, 3) := by decide +kernel
theorem dX2_digest_92 : decode cX2_digest 92 = .ok (.invokestatic 213, 3) := by decide +kernel
theorem dX2_digest_95 : decode cX2_digest 95 = .ok (.lstore_n 1, 1) := by decide +kernel
theorem dX2_digest_96 : decode cX2_digest 96 = .ok (.iconst 0, 1) := by decide +kernel
theorem dX2_digest_97 : decode cX2_digest 97 = .ok (.istore_n 3, 1) := by decide +kernel
theorem dX2_digest_98 : decode cX2_digest 98 = .ok (.iload_n 3, 1) := by decide +kernel
theorem dX2_digest_99 : decode cX2_digest 99 = .ok (.aload_n 0, 1) := by decide +kernel
theorem dX2_digest_100 : decode cX2_digest 100 = .ok (.getfield 18, 3) := by decide +kernel
theorem dX2_digest_103 : decode cX2_digest 103 = .ok (.if_icmp .ge 22, 3) := by decide +kernel
theorem dX2_digest_106 : decode cX2_digest 106 = .ok (.lload_n 1, 1) := by decide +kernel
theorem dX2_digest_107 : decode cX2_digest 107 = .ok (.aload_n 0, 1) := by decide +kernel
theorem dX2_digest_108 : decode cX2_digest 108 = .ok (.getfield 14, 3) := by decide +kernel
theorem dX2_digest_111 : decode cX2_digest 111 = .ok (.iload_n 3, 1) := by decide +kernel
theorem dX2_digest_112 : decode cX2_digest 112 = .ok (.invokevirtual 58, 3) := by decide +kernel
theorem dX2_digest_115 : decode cX2_digest 115 = .ok (.invokestatic 213, 3) := by decide +kernel
theorem dX2_digest_118 : decode cX2_digest 118 = .ok (.lstore_n 1, 1) := by decide +kernel
theorem dX2_digest_119 : decode cX2_digest 119 = .ok (.iinc 3 1, 3) := by decide +kernel
theorem dX2_digest_122 : decode cX2_digest 122 = .ok (.goto (-24), 3) := by decide +kernel
theorem dX2_digest_125 : decode cX2_digest 125 = .ok (.iconst 0, 1) := by decide +kernel
theorem dX2_digest_126 : decode cX2_digest 126 = .ok (.istore_n 3, 1) := by decide +kernel
theorem dX2_digest_127 : decode cX2_digest 127 = .ok (.iload_n 3, 1) := by decide +kernel
theorem dX2_digest_128 : decode cX2_digest 128 = .ok (.bipush 9, 2) := by decide +kernel
theorem dX2_digest_130 : decode cX2_digest 130 = .ok (.if_icmp .gt 19, 3) := by decide +kernel
theorem dX2_digest_133 : decode cX2_digest 133 = .ok (.lload_n 1, 1) := by decide +kernel
theorem dX2_digest_134 : decode cX2_digest 134 = .ok (.aload_n 0, 1) := by decide +kernel
theorem dX2_digest_135 : decode cX2_digest 135 = .ok (.iload_n 3, 1) := by decide +kernel
theorem dX2_digest_136 : decode cX2_digest 136 = .ok (.invokevirtual 225, 3) := by decide +kernel
theorem dX2_digest_139 : decode cX2_digest 139 = .ok (.invokestatic 213, 3) := by decide +kernel
theorem dX2_digest_142 : decode cX2_digest 142 = .ok (.lstore_n 1, 1) := by decide +kernel
theorem dX2_digest_143 : decode cX2_digest 143 = .ok (.iinc 3 1, 3) := by decide +kernel
theorem dX2_digest_146 : decode cX2_digest 146 = .ok (.goto (-19), 3) := by decide +kernel
theorem dX2_digest_149 : decode cX2_digest 149 = .ok (.lload_n 1, 1) := by decide +kernel
theorem dX2_digest_150 : decode cX2_digest 150 = .ok (.lreturn, 1) := by decide +kernel
theorem dX2_withHouse_0 : decode cX2_withHouse 0 = .ok (.lload_n 1, 1) := by decide +kernel
theorem dX2_withHouse_1 : decode cX2_withHouse 1 = .ok (.lstore 4, 2) := by decide +kernel
theorem dX2_withHouse_3 : decode cX2_withHouse 3 = .ok (.iconst 0, 1) := by decide +kernel
theorem dX2_withHouse_4 : decode cX2_withHouse 4 = .ok (.istore 6, 2) := by decide +kernel
theorem dX2_withHouse_6 : decode cX2_withHouse 6 = .ok (.iload 6, 2) := by decide +kernel
theorem dX2_withHouse_8 : decode cX2_withHouse 8 = .ok (.iconst 5, 1) := by decide +kernel
theorem dX2_withHouse_9 : decode cX2_withHouse 9 = .ok (.if_icmp .gt 23, 3) := by decide +kernel
theorem dX2_withHouse_12 : decode cX2_withHouse 12 = .ok (.lload 4, 2) := by decide +kernel
theorem dX2_withHouse_14 : decode cX2_withHouse 14 = .ok (.aload_n 0, 1) := by decide +kernel
theorem dX2_withHouse_15 : decode cX2_withHouse 15 = .ok (.iload_n 3, 1) := by decide +kernel
theorem dX2_withHouse_16 : decode cX2_withHouse 16 = .ok (.iload 6, 2) := by decide +kernel
theorem dX2_withHouse_18 : decode cX2_withHouse 18 = .ok (.invokevirtual 228, 3) := by decide +kernel
theorem dX2_withHouse_21 : decode cX2_withHouse 21 = .ok (.invokestatic 213, 3) := by decide +kernel
theorem dX2_withHouse_24 : decode cX2_withHouse 24 = .ok (.lstore 4, 2) := by decide +kernel
theorem dX2_withHouse_26 : decode cX2_withHouse 26 = .ok (.iinc 6 1, 3) := by decide +kernel
theorem dX2_withHouse_29 : decode cX2_withHouse 29 = .ok (.goto (-23), 3) := by decide +kernel
theorem dX2_withHouse_32 : decode cX2_withHouse 32 = .ok (.iconst 0, 1) := by decide +kernel
theorem dX2_withHouse_33 : decode cX2_withHouse 33 = .ok (.istore 6, 2) := by decide +kernel
theorem dX2_withHouse_35 : decode cX2_withHouse 35 = .ok (.iload 6, 2) := by decide +kernel
theorem dX2_withHouse_37 : decode cX2_withHouse 37 = .ok (.aload_n 0, 1) := by decide +kernel
theorem dX2_withHouse_38 : decode cX2_withHouse 38 = .ok (.getfield 34, 3) := by decide +kernel
theorem dX2_withHouse_41 : decode cX2_withHouse 41 = .ok (.getfield 112, 3) := by decide +kernel
theorem dX2_withHouse_44 : decode cX2_withHouse 44 = .ok (.if_icmp .gt 23, 3) := by decide +kernel
theorem dX2_withHouse_47 : decode cX2_withHouse 47 = .ok (.lload 4, 2) := by decide +kernel
theorem dX2_withHouse_49 : decode cX2_withHouse 49 = .ok (.aload_n 0, 1) := by decide +kernel
theorem dX2_withHouse_50 : decode cX2_withHouse 50 = .ok (.iload_n 3, 1) := by decide +kernel
theorem dX2_withHouse_51 : decode cX2_withHouse 51 = .ok (.iload 6, 2) := by decide +kernel
theorem dX2_withHouse_53 : decode cX2_withHouse 53 = .ok (.invokevirtual 129, 3) := by decide +kernel
theorem dX2_withHouse_56 : decode cX2_withHouse 56 = .ok (.invokestatic 213, 3) := by decide +kernel
theorem dX2_withHouse_59 : decode cX2_withHouse 59 = .ok (.lstore 4, 2) := by decide +kernel
theorem dX2_withHouse_61 : decode cX2_withHouse 61 = .ok (.iinc 6 1, 3) := by decide +kernel
theorem dX2_withHouse_64 : decode cX2_withHouse 64 = .ok (.goto (-29), 3) := by decide +kernel
theorem dX2_withHouse_67 : decode cX2_withHouse 67 = .ok (.lload 4, 2) := by decide +kernel
theorem dX2_withHouse_69 : decode cX2_withHouse 69 = .ok (.lreturn, 1) := by decide +kernel
theorem dX2_with_0 : decode cX2_with 0 = .ok (.ldc2_w 231, 3) := by decide +kernel
theorem dX2_with_3 : decode cX2_with 3 = .ok (.lload_n 0, 1) := by decide +kernel
theorem dX2_with_4 : decode cX2_with 4 = .ok (.lmul, 1) := by decide +kernel
theorem dX2_with_5 : decode cX2_with 5 = .ok (.iload_n 2, 1) := by decide +kernel
theorem dX2_with_6 : decode cX2_with 6 = .ok (.i2l, 1) := by decide +kernel
theorem dX2_with_7 : decode cX2_with 7 = .ok (.ladd, 1) := by decide +kernel
theorem dX2_with_8 : decode cX2_with 8 = .ok (.lreturn, 1) := by decide +kernel
theorem dX2_canStandAt_0 : decode cX2_canStandAt 0 = .ok (.iload_n 0, 1) := by decide +kernel
theorem dX2_canStandAt_1 : decode cX2_canStandAt 1 = .ok (.bipush 17, 2) := by decide +kernel
theorem dX2_canStandAt_3 : decode cX2_canStandAt 3 = .ok (.if_icmp .lt 5, 3) := by decide +kernel
theorem dX2_canStandAt_6 : decode cX2_canStandAt 6 = .ok (.iconst 0, 1) := by decide +kernel
theorem dX2_canStandAt_7 : decode cX2_canStandAt 7 = .ok (.ireturn, 1) := by decide +kernel
theorem dX2_canStandAt_8 : decode cX2_canStandAt 8 = .ok (.iload_n 0, 1) := by decide +kernel
theorem dX2_canStandAt_9 : decode cX2_canStandAt 9 = .ok (.iconst 3, 1) := by decide +kernel
theorem dX2_canStandAt_10 : decode cX2_canStandAt 10 = .ok (.irem, 1) := by decide +kernel
theorem dX2_canStandAt_11 : decode cX2_canStandAt 11 = .ok (.lookupswitch 57 #[(0, 25), (1, 39)], 25) := by decide +kernel
theorem dX2_canStandAt_36 : decode cX2_canStandAt 36 = .ok (.iload_n 1, 1) := by decide +kernel
theorem dX2_canStandAt_37 : decode cX2_canStandAt 37 = .ok (.invokestatic 73, 3) := by decide +kernel
theorem dX2_canStandAt_40 : decode cX2_canStandAt 40 = .ok (.iconst (-1), 1) := by decide +kernel
theorem dX2_canStandAt_41 : decode cX2_canStandAt 41 = .ok (.if_icmp .eq 7, 3) := by decide +kernel
theorem dX2_canStandAt_44 : decode cX2_canStandAt 44 = .ok (.iconst 1, 1) := by decide +kernel
theorem dX2_canStandAt_45 : decode cX2_canStandAt 45 = .ok (.goto 4, 3) := by decide +kernel
theorem dX2_canStandAt_48 : decode cX2_canStandAt 48 = .ok (.iconst 0, 1) := by decide +kernel
theorem dX2_canStandAt_49 : decode cX2_canStandAt 49 = .ok (.ireturn, 1) := by decide +kernel
theorem dX2_canStandAt_50 : decode cX2_canStandAt 50 = .ok (.iload_n 1, 1) := by decide +kernel
theorem dX2_canStandAt_51 : decode cX2_canStandAt 51 = .ok (.bipush 48, 2) := by decide +kernel
theorem dX2_canStandAt_53 : decode cX2_canStandAt 53 = .ok (.if_icmp .lt 13, 3) := by decide +kernel
theorem dX2_canStandAt_56 : decode cX2_canStandAt 56 = .ok (.iload_n 1, 1) := by decide +kernel
theorem dX2_canStandAt_57 : decode cX2_canStandAt 57 = .ok (.bipush 57, 2) := by decide +kernel
theorem dX2_canStandAt_59 : decode cX2_canStandAt 59 = .ok (.if_icmp .gt 7, 3) := by decide +kernel
theorem dX2_canStandAt_62 : decode cX2_canStandAt 62 = .ok (.iconst 1, 1) := by decide +kernel
theorem dX2_canStandAt_63 : decode cX2_canStandAt 63 = .ok (.goto 4, 3) := by decide +kernel
theorem dX2_canStandAt_66 : decode cX2_canStandAt 66 = .ok (.iconst 0, 1) := by decide +kernel
theorem dX2_canStandAt_67 : decode cX2_canStandAt 67 = .ok (.ireturn, 1) := by decide +kernel
theorem dX2_canStandAt_68 : decode cX2_canStandAt 68 = .ok (.iload_n 1, 1) := by decide +kernel
theorem dX2_canStandAt_69 : decode cX2_canStandAt 69 = .ok (.bipush 44, 2) := by decide +kernel
theorem dX2_canStandAt_71 : decode cX2_canStandAt 71 = .ok (.if_icmp .ne 7, 3) := by decide +kernel
theorem dX2_canStandAt_74 : decode cX2_canStandAt 74 = .ok (.iconst 1, 1) := by decide +kernel
theorem dX2_canStandAt_75 : decode cX2_canStandAt 75 = .ok (.goto 4, 3) := by decide +kernel
theorem dX2_canStandAt_78 : decode cX2_canStandAt 78 = .ok (.iconst 0, 1) := by decide +kernel
theorem dX2_canStandAt_79 : decode cX2_canStandAt 79 = .ok (.ireturn, 1) := by decide +kernel
theorem dX2_kindOfLetter_0 : decode cX2_kindOfLetter 0 = .ok (.iconst 0, 1) := by decide +kernel
theorem dX2_kindOfLetter_1 : decode cX2_kindOfLetter 1 = .ok (.istore_n 1, 1) := by decide +kernel
theorem dX2_kindOfLetter_2 : decode cX2_kindOfLetter 2 = .ok (.iload_n 1, 1) := by decide +kernel
theorem dX2_kindOfLetter_3 : decode cX2_kindOfLetter 3 = .ok (.ldc 233, 2) := by decide +kernel
theorem dX2_kindOfLetter_5 : decode cX2_kindOfLetter 5 = .ok (.invokevirtual 235, 3) := by decide +kernel
theorem dX2_kindOfLetter_8 : decode cX2_kindOfLetter 8 = .ok (.if_icmp .ge 21, 3) := by decide +kernel
theorem dX2_kindOfLetter_11 : decode cX2_kindOfLetter 11 = .ok (.ldc 233, 2) := by decide +kernel
theorem dX2_kindOfLetter_13 : decode cX2_kindOfLetter 13 = .ok (.iload_n 1, 1) := by decide +kernel
theorem dX2_kindOfLetter_14 : decode cX2_kindOfLetter 14 = .ok (.invokevirtual 240, 3) := by decide +kernel
theorem dX2_kindOfLetter_17 : decode cX2_kindOfLetter 17 = .ok (.iload_n 0, 1) := by decide +kernel
theorem dX2_kindOfLetter_18 : decode cX2_kindOfLetter 18 = .ok (.if_icmp .ne 5, 3) := by decide +kernel
theorem dX2_kindOfLetter_21 : decode cX2_kindOfLetter 21 = .ok (.iload_n 1, 1) := by decide +kernel
theorem dX2_kindOfLetter_22 : decode cX2_kindOfLetter 22 = .ok (.ireturn, 1) := by decide +kernel
theorem dX2_kindOfLetter_23 : decode cX2_kindOfLetter 23 = .ok (.iinc 1 1, 3) := by decide +kernel
theorem dX2_kindOfLetter_26 : decode cX2_kindOfLetter 26 = .ok (.goto (-24), 3) := by decide +kernel
theorem dX2_kindOfLetter_29 : decode cX2_kindOfLetter 29 = .ok (.iconst (-1), 1) := by decide +kernel
theorem dX2_kindOfLetter_30 : decode cX2_kindOfLetter 30 = .ok (.ireturn, 1) := by decide +kernel
theorem dX2_housesOnPage_0 : decode cX2_housesOnPage 0 = .ok (.aload_n 0, 1) := by decide +kernel
theorem dX2_housesOnPage_1 : decode cX2_housesOnPage 1 = .ok (.getfield 18, 3) := by decide +kernel
theorem dX2_housesOnPage_4 : decode cX2_housesOnPage 4 = .ok (.iconst 3, 1) := by decide +kernel
theorem dX2_housesOnPage_5 : decode cX2_housesOnPage 5 = .ok (.irem, 1) := by decide +kernel
theorem dX2_housesOnPage_6 : decode cX2_housesOnPage 6 = .ok (.iconst 2, 1) := by decide +kernel
theorem dX2_housesOnPage_7 : decode cX2_housesOnPage 7 = .ok (.if_icmp .ne 7, 3) := by decide +kernel
theorem dX2_housesOnPage_10 : decode cX2_housesOnPage 10 = .ok (.iconst 1, 1) := by decide +kernel
theorem dX2_housesOnPage_11 : decode cX2_housesOnPage 11 = .ok (.goto 4, 3) := by decide +kernel
theorem dX2_housesOnPage_14 : decode cX2_housesOnPage 14 = .ok (.iconst 0, 1) := by decide +kernel
theorem dX2_housesOnPage_15 : decode cX2_housesOnPage 15 = .ok (.istore_n 1, 1) := by decide +kernel
theorem dX2_housesOnPage_16 : decode cX2_housesOnPage 16 = .ok (.iload_n 1, 1) := by decide +kernel
theorem dX2_housesOnPage_17 : decode cX2_housesOnPage 17 = .ok (.ifCond .eq 14, 3) := by decide +kernel
theorem dX2_housesOnPage_20 : decode cX2_housesOnPage 20 = .ok (.aload_n 0, 1) := by decide +kernel
theorem dX2_housesOnPage_21 : decode cX2_housesOnPage 21 = .ok (.invokevirtual 244, 3) := by decide +kernel
theorem dX2_housesOnPage_24 : decode cX2_housesOnPage 24 = .ok (.aload_n 0, 1) := by decide +kernel
theorem dX2_housesOnPage_25 : decode cX2_housesOnPage 25 = .ok (.getfield 18, 3) := by decide +kernel
theorem dX2_housesOnPage_28 : decode cX2_housesOnPage 28 = .ok (.if_icmp .eq 5, 3) := by decide +kernel
theorem dX2_housesOnPage_31 : decode cX2_housesOnPage 31 = .ok (.iconst 0, 1) := by decide +kernel
theorem dX2_housesOnPage_32 : decode cX2_housesOnPage 32 = .ok (.ireturn, 1) := by decide +kernel
theorem dX2_housesOnPage_33 : decode cX2_housesOnPage 33 = .ok (.aload_n 0, 1) := by decide +kernel
theorem dX2_housesOnPage_34 : decode cX2_housesOnPage 34 = .ok (.getfield 18, 3) := by decide +kernel
theorem dX2_housesOnPage_37 : decode cX2_housesOnPage 37 = .ok (.iconst 1, 1) := by decide +kernel
theorem dX2_housesOnPage_38 : decode cX2_housesOnPage 38 = .ok (.iadd, 1) := by decide +kernel
theorem dX2_housesOnPage_39 : decode cX2_housesOnPage 39 = .ok (.iconst 3, 1) := by decide +kernel
theorem dX2_housesOnPage_40 : decode cX2_housesOnPage 40 = .ok (.idiv, 1) := by decide +kernel
theorem dX2_housesOnPage_41 : decode cX2_housesOnPage 41 = .ok (.ireturn, 1) := by decide +kernel
theorem dX2_isA_0 : decode cX2_isA 0 = .ok (.iload_n 1, 1) := by decide +kernel
theorem dX2_isA_1 : decode cX2_isA 1 = .ok (.ifCond .eq 18, 3) := by decide +kernel
theorem dX2_isA_4 : decode cX2_isA 4 = .ok (.iload_n 1, 1) := by decide +kernel
theorem dX2_isA_5 : decode cX2_isA 5 = .ok (.iload_n 0, 1) := by decide +kernel
theorem dX2_isA_6 : decode cX2_isA 6 = .ok (.if_icmp .eq 13, 3) := by decide +kernel
theorem dX2_isA_9 : decode cX2_isA 9 = .ok (.iload_n 1, 1) := by decide +kernel
theorem dX2_isA_10 : decode cX2_isA 10 = .ok (.iconst 2, 1) := by decide +kernel
theorem dX2_isA_11 : decode cX2_isA 11 = .ok (.if_icmp .ne 12, 3) := by decide +kernel
theorem dX2_isA_14 : decode cX2_isA 14 = .ok (.iload_n 0, 1) := by decide +kernel
theorem dX2_isA_15 : decode cX2_isA 15 = .ok (.iconst 4, 1) := by decide +kernel
theorem dX2_isA_16 : decode cX2_isA 16 = .ok (.if_icmp .ne 7, 3) := by decide +kernel
theorem dX2_isA_19 : decode cX2_isA 19 = .ok (.iconst 1, 1) := by decide +kernel
theorem dX2_isA_20 : decode cX2_isA 20 = .ok (.goto 4, 3) := by decide +kernel
theorem dX2_isA_23 : decode cX2_isA 23 = .ok (.iconst 0, 1) := by decide +kernel
theorem dX2_isA_24 : decode cX2_isA 24 = .ok (.ireturn, 1) := by decide +kernel
theorem dX2_numberOf_0 : decode cX2_numberOf 0 = .ok (.iload_n 0, 1) := by decide +kernel
theorem dX2_numberOf_1 : decode cX2_numberOf 1 = .ok (.iconst 1, 1) := by decide +kernel
theorem dX2_numberOf_2 : decode cX2_numberOf 2 = .ok (.if_icmp .ne 9, 3) := by decide +kernel
theorem dX2_numberOf_5 : decode cX2_numberOf 5 = .ok (.iload_n 1, 1) := by decide +kernel
theorem dX2_numberOf_6 : decode cX2_numberOf 6 = .ok (.iconst 2, 1) := by decide +kernel
theorem dX2_numberOf_7 : decode cX2_numberOf 7 = .ok (.idiv, 1) := by decide +kernel
theorem dX2_numberOf_8 : decode cX2_numberOf 8 = .ok (.goto 4, 3) := by decide +kernel
theorem dX2_numberOf_11 : decode cX2_numberOf 11 = .ok (.iload_n 1, 1) := by decide +kernel
theorem dX2_numberOf_12 : decode cX2_numberOf 12 = .ok (.ireturn, 1) := by decide +kernel
theorem dX2_ageNextDay_0 : decode cX2_ageNextDay 0 = .ok (.iload_n 0, 1) := by decide +kernel
theorem dX2_ageNextDay_1 : decode cX2_ageNextDay 1 = .ok (.iconst 4, 1) := by decide +kernel
theorem dX2_ageNextDay_2 : decode cX2_ageNextDay 2 = .ok (.if_icmp .ne 7, 3) := by decide +kernel
theorem dX2_ageNextDay_5 : decode cX2_ageNextDay 5 = .ok (.iload_n 1, 1) := by decide +kernel
theorem dX2_ageNextDay_6 : decode cX2_ageNextDay 6 = .ok (.goto 6, 3) := by decide +kernel
theorem dX2_ageNextDay_9 : decode cX2_ageNextDay 9 = .ok (.iload_n 1, 1) := by decide +kernel
theorem dX2_ageNextDay_10 : decode cX2_ageNextDay 10 = .ok (.iconst 1, 1) := by decide +kernel
theorem dX2_ageNextDay_11 : decode cX2_ageNextDay 11 = .ok (.iadd, 1) := by decide +kernel
theorem dX2_ageNextDay_12 : decode cX2_ageNextDay 12 = .ok (.ireturn, 1) := by decide +kernel
theorem dX2_isHouse_0 : decode cX2_isHouse 0 = .ok (.iload_n 1, 1) := by decide +kernel
theorem dX2_isHouse_1 : decode cX2_isHouse 1 = .ok (.ifCond .lt 15, 3) := by decide +kernel
theorem dX2_isHouse_4 : decode cX2_isHouse 4 = .ok (.iload_n 1, 1) := by decide +kernel
theorem dX2_isHouse_5 : decode cX2_isHouse 5 = .ok (.aload_n 0, 1) := by decide +kernel
theorem dX2_isHouse_6 : decode cX2_isHouse 6 = .ok (.getfield 22, 3) := by decide +kernel
theorem dX2_isHouse_9 : decode cX2_isHouse 9 = .ok (.if_icmp .ge 7, 3) := by decide +kernel
theorem dX2_isHouse_12 : decode cX2_isHouse 12 = .ok (.iconst 1, 1) := by decide +kernel
theorem dX2_isHouse_13 : decode cX2_isHouse 13 = .ok (.goto 4, 3) := by decide +kernel
theorem dX2_isHouse_16 : decode cX2_isHouse 16 = .ok (.iconst 0, 1) := by decide +kernel
theorem dX2_isHouse_17 : decode cX2_isHouse 17 = .ok (.ireturn, 1) := by decide +kernel
theorem dX2_lendsACradle_0 : decode cX2_lendsACradle 0 = .ok (.aload_n 0, 1) := by decide +kernel
theorem dX2_lendsACradle_1 : decode cX2_lendsACradle 1 = .ok (.iload_n 1, 1) := by decide +kernel
theorem dX2_lendsACradle_2 : decode cX2_lendsACradle 2 = .ok (.iconst 1, 1) := by decide +kernel
theorem dX2_lendsACradle_3 : decode cX2_lendsACradle 3 = .ok (.iadd, 1) := by decide +kernel
theorem dX2_lendsACradle_4 : decode cX2_lendsACradle 4 = .ok (.invokevirtual 79, 3) := by decide +kernel
theorem dX2_lendsACradle_7 : decode cX2_lendsACradle 7 = .ok (.ifCond .eq 24, 3) := by decide +kernel
theorem dX2_lendsACradle_10 : decode cX2_lendsACradle 10 = .ok (.aload_n 0, 1) := by decide +kernel
theorem dX2_lendsACradle_11 : decode cX2_lendsACradle 11 = .ok (.getfield 28, 3) := by decide +kernel
theorem dX2_lendsACradle_14 : decode cX2_lendsACradle 14 = .ok (.iload_n 1, 1) := by decide +kernel
theorem dX2_lendsACradle_15 : decode cX2_lendsACradle 15 = .ok (.iconst 1, 1) := by decide +kernel
theorem dX2_lendsACradle_16 : decode cX2_lendsACradle 16 = .ok (.iadd, 1) := by decide +kernel
theorem dX2_lendsACradle_17 : decode cX2_lendsACradle 17 = .ok (.invokevirtual 58, 3) := by decide +kernel
theorem dX2_lendsACradle_20 : decode cX2_lendsACradle 20 = .ok (.iconst 3, 1) := by decide +kernel
theorem dX2_lendsACradle_21 : decode cX2_lendsACradle 21 = .ok (.invokestatic 96, 3) := by decide +kernel
theorem dX2_lendsACradle_24 : decode cX2_lendsACradle 24 = .ok (.ifCond .eq 7, 3) := by decide +kernel
theorem dX2_lendsACradle_27 : decode cX2_lendsACradle 27 = .ok (.iconst 1, 1) := by decide +kernel
theorem dX2_lendsACradle_28 : decode cX2_lendsACradle 28 = .ok (.goto 4, 3) := by decide +kernel
theorem dX2_lendsACradle_31 : decode cX2_lendsACradle 31 = .ok (.iconst 0, 1) := by decide +kernel
theorem dX2_lendsACradle_32 : decode cX2_lendsACradle 32 = .ok (.ireturn, 1) := by decide +kernel
theorem dX2_bear_0 : decode cX2_bear 0 = .ok (.aload_n 1, 1) := by decide +kernel
theorem dX2_bear_1 : decode cX2_bear 1 = .ok (.iload_n 2, 1) := by decide +kernel
theorem dX2_bear_2 : decode cX2_bear 2 = .ok (.iconst 0, 1) := by decide +kernel
theorem dX2_bear_3 : decode cX2_bear 3 = .ok (.invokevirtual 54, 3) := by decide +kernel
theorem dX2_bear_6 : decode cX2_bear 6 = .ok (.aload_n 0, 1) := by decide +kernel
theorem dX2_bear_7 : decode cX2_bear 7 = .ok (.iload_n 2, 1) := by decide +kernel
theorem dX2_bear_8 : decode cX2_bear 8 = .ok (.invokevirtual 109, 3) := by decide +kernel
theorem dX2_bear_11 : decode cX2_bear 11 = .ok (.ifCond .eq 11, 3) := by decide +kernel
theorem dX2_bear_14 : decode cX2_bear 14 = .ok (.aload_n 1, 1) := by decide +kernel
theorem dX2_bear_15 : decode cX2_bear 15 = .ok (.iload_n 2, 1) := by decide +kernel
theorem dX2_bear_16 : decode cX2_bear 16 = .ok (.iconst 1, 1) := by decide +kernel
theorem dX2_bear_17 : decode cX2_bear 17 = .ok (.iadd, 1) := by decide +kernel
theorem dX2_bear_18 : decode cX2_bear 18 = .ok (.iconst 0, 1) := by decide +kernel
theorem dX2_bear_19 : decode cX2_bear 19 = .ok (.invokevirtual 54, 3) := by decide +kernel
theorem dX2_bear_22 : decode cX2_bear 22 = .ok (.return_, 1) := by decide +kernel
theorem dX2_bearIfMayBe_0 : decode cX2_bearIfMayBe 0 = .ok (.aload_n 0, 1) := by decide +kernel
theorem dX2_bearIfMayBe_1 : decode cX2_bearIfMayBe 1 = .ok (.getfield 28, 3) := by decide +kernel
theorem dX2_bearIfMayBe_4 : decode cX2_bearIfMayBe 4 = .ok (.iload_n 2, 1) := by decide +kernel
theorem dX2_bearIfMayBe_5 : decode cX2_bearIfMayBe 5 = .ok (.invokevirtual 58, 3) := by decide +kernel
theorem dX2_bearIfMayBe_8 : decode cX2_bearIfMayBe 8 = .ok (.iconst 2, 1) := by decide +kernel
theorem dX2_bearIfMayBe_9 : decode cX2_bearIfMayBe 9 = .ok (.invokestatic 96, 3) := by decide +kernel
theorem dX2_bearIfMayBe_12 : decode cX2_bearIfMayBe 12 = .ok (.ifCond .ne 9, 3) := by decide +kernel
theorem dX2_bearIfMayBe_15 : decode cX2_bearIfMayBe 15 = .ok (.aload_n 0, 1) := by decide +kernel
theorem dX2_bearIfMayBe_16 : decode cX2_bearIfMayBe 16 = .ok (.aload_n 1, 1) := by decide +kernel
theorem dX2_bearIfMayBe_17 : decode cX2_bearIfMayBe 17 = .ok (.iload_n 2, 1) := by decide +kernel
theorem dX2_bearIfMayBe_18 : decode cX2_bearIfMayBe 18 = .ok (.invokevirtual 99, 3) := by decide +kernel
theorem dX2_bearIfMayBe_21 : decode cX2_bearIfMayBe 21 = .ok (.return_, 1) := by decide +kernel
theorem dX2_growOlder_0 : decode cX2_growOlder 0 = .ok (.iconst 0, 1) := by decide +kernel
theorem dX2_growOlder_1 : decode cX2_growOlder 1 = .ok (.istore_n 2, 1) := by decide +kernel
theorem dX2_growOlder_2 : decode cX2_growOlder 2 = .ok (.iload_n 2, 1) := by decide +kernel
theorem dX2_growOlder_3 : decode cX2_growOlder 3 = .ok (.aload_n 0, 1) := by decide +kernel
theorem dX2_growOlder_4 : decode cX2_growOlder 4 = .ok (.getfield 22, 3) := by decide +kernel
theorem dX2_growOlder_7 : decode cX2_growOlder 7 = .ok (.if_icmp .ge 30, 3) := by decide +kernel
theorem dX2_growOlder_10 : decode cX2_growOlder 10 = .ok (.aload_n 1, 1) := by decide +kernel
theorem dX2_growOlder_11 : decode cX2_growOlder 11 = .ok (.iload_n 2, 1) := by decide +kernel
theorem dX2_growOlder_12 : decode cX2_growOlder 12 = .ok (.aload_n 0, 1) := by decide +kernel
theorem dX2_growOlder_13 : decode cX2_growOlder 13 = .ok (.getfield 28, 3) := by decide +kernel
theorem dX2_growOlder_16 : decode cX2_growOlder 16 = .ok (.iload_n 2, 1) := by decide +kernel
theorem dX2_growOlder_17 : decode cX2_growOlder 17 = .ok (.invokevirtual 58, 3) := by decide +kernel
theorem dX2_growOlder_20 : decode cX2_growOlder 20 = .ok (.aload_n 1, 1) := by decide +kernel
theorem dX2_growOlder_21 : decode cX2_growOlder 21 = .ok (.iload_n 2, 1) := by decide +kernel
theorem dX2_growOlder_22 : decode cX2_growOlder 22 = .ok (.invokevirtual 58, 3) := by decide +kernel
theorem dX2_growOlder_25 : decode cX2_growOlder 25 = .ok (.invokestatic 159, 3) := by decide +kernel
theorem dX2_growOlder_28 : decode cX2_growOlder 28 = .ok (.invokevirtual 54, 3) := by decide +kernel
theorem dX2_growOlder_31 : decode cX2_growOlder 31 = .ok (.iinc 2 1, 3) := by decide +kernel
theorem dX2_growOlder_34 : decode cX2_growOlder 34 = .ok (.goto (-32), 3) := by decide +kernel
theorem dX2_growOlder_37 : decode cX2_growOlder 37 = .ok (.return_, 1) := by decide +kernel
theorem dX2_numberAt_0 : decode cX2_numberAt 0 = .ok (.aload_n 0, 1) := by decide +kernel
theorem dX2_numberAt_1 : decode cX2_numberAt 1 = .ok (.getfield 28, 3) := by decide +kernel
theorem dX2_numberAt_4 : decode cX2_numberAt 4 = .ok (.iload_n 2, 1) := by decide +kernel
theorem dX2_numberAt_5 : decode cX2_numberAt 5 = .ok (.invokevirtual 58, 3) := by decide +kernel
theorem dX2_numberAt_8 : decode cX2_numberAt 8 = .ok (.aload_n 1, 1) := by decide +kernel
theorem dX2_numberAt_9 : decode cX2_numberAt 9 = .ok (.iload_n 2, 1) := by decide +kernel
theorem dX2_numberAt_10 : decode cX2_numberAt 10 = .ok (.invokevirtual 58, 3) := by decide +kernel
theorem dX2_numberAt_13 : decode cX2_numberAt 13 = .ok (.invokestatic 156, 3) := by decide +kernel
theorem dX2_numberAt_16 : decode cX2_numberAt 16 = .ok (.ireturn, 1) := by decide +kernel
theorem dX2_allNumbers_0 : decode cX2_allNumbers 0 = .ok (.iconst 0, 1) := by decide +kernel
theorem dX2_allNumbers_1 : decode cX2_allNumbers 1 = .ok (.istore_n 2, 1) := by decide +kernel
theorem dX2_allNumbers_2 : decode cX2_allNumbers 2 = .ok (.iconst 0, 1) := by decide +kernel
theorem dX2_allNumbers_3 : decode cX2_allNumbers 3 = .ok (.istore_n 3, 1) := by decide +kernel
theorem dX2_allNumbers_4 : decode cX2_allNumbers 4 = .ok (.iload_n 3, 1) := by decide +kernel
theorem dX2_allNumbers_5 : decode cX2_allNumbers 5 = .ok (.aload_n 0, 1) := by decide +kernel
theorem dX2_allNumbers_6 : decode cX2_allNumbers 6 = .ok (.getfield 22, 3) := by decide +kernel
theorem dX2_allNumbers_9 : decode cX2_allNumbers 9 = .ok (.if_icmp .ge 18, 3) := by decide +kernel
theorem dX2_allNumbers_12 : decode cX2_allNumbers 12 = .ok (.iload_n 2, 1) := by decide +kernel
theorem dX2_allNumbers_13 : decode cX2_allNumbers 13 = .ok (.aload_n 0, 1) := by decide +kernel
theorem dX2_allNumbers_14 : decode cX2_allNumbers 14 = .ok (.aload_n 1, 1) := by decide +kernel
theorem dX2_allNumbers_15 : decode cX2_allNumbers 15 = .ok (.iload_n 3, 1) := by decide +kernel
theorem dX2_allNumbers_16 : decode cX2_allNumbers 16 = .ok (.invokevirtual 247, 3) := by decide +kernel
theorem dX2_allNumbers_19 : decode cX2_allNumbers 19 = .ok (.iadd, 1) := by decide +kernel
theorem dX2_allNumbers_20 : decode cX2_allNumbers 20 = .ok (.istore_n 2, 1) := by decide +kernel
theorem dX2_allNumbers_21 : decode cX2_allNumbers 21 = .ok (.iinc 3 1, 3) := by decide +kernel
theorem dX2_allNumbers_24 : decode cX2_allNumbers 24 = .ok (.goto (-20), 3) := by decide +kernel
theorem dX2_allNumbers_27 : decode cX2_allNumbers 27 = .ok (.iload_n 2, 1) := by decide +kernel
theorem dX2_allNumbers_28 : decode cX2_allNumbers 28 = .ok (.ireturn, 1) := by decide +kernel
theorem dX2_turnInWalk_0 : decode cX2_turnInWalk 0 = .ok (.aload_n 0, 1) := by decide +kernel
theorem dX2_turnInWalk_1 : decode cX2_turnInWalk 1 = .ok (.aload_n 1, 1) := by decide +kernel
theorem dX2_turnInWalk_2 : decode cX2_turnInWalk 2 = .ok (.iload_n 2, 1) := by decide +kernel
theorem dX2_turnInWalk_3 : decode cX2_turnInWalk 3 = .ok (.invokevirtual 247, 3) := by decide +kernel
theorem dX2_turnInWalk_6 : decode cX2_turnInWalk 6 = .ok (.istore_n 3, 1) := by decide +kernel
theorem dX2_turnInWalk_7 : decode cX2_turnInWalk 7 = .ok (.iconst 0, 1) := by decide +kernel
theorem dX2_turnInWalk_8 : decode cX2_turnInWalk 8 = .ok (.istore 4, 2) := by decide +kernel
theorem dX2_turnInWalk_10 : decode cX2_turnInWalk 10 = .ok (.iconst 0, 1) := by decide +kernel
theorem dX2_turnInWalk_11 : decode cX2_turnInWalk 11 = .ok (.istore 5, 2) := by decide +kernel
theorem dX2_turnInWalk_13 : decode cX2_turnInWalk 13 = .ok (.iload 5, 2) := by decide +kernel
theorem dX2_turnInWalk_15 : decode cX2_turnInWalk 15 = .ok (.aload_n 0, 1) := by decide +kernel
theorem dX2_turnInWalk_16 : decode cX2_turnInWalk 16 = .ok (.getfield 22, 3) := by decide +kernel
theorem dX2_turnInWalk_19 : decode cX2_turnInWalk 19 = .ok (.if_icmp .ge 39, 3) := by decide +kernel
theorem dX2_turnInWalk_22 : decode cX2_turnInWalk 22 = .ok (.aload_n 0, 1) := by decide +kernel
theorem dX2_turnInWalk_23 : decode cX2_turnInWalk 23 = .ok (.aload_n 1, 1) := by decide +kernel
theorem dX2_turnInWalk_24 : decode cX2_turnInWalk 24 = .ok (.iload 5, 2) := by decide +kernel
theorem dX2_turnInWalk_26 : decode cX2_turnInWalk 26 = .ok (.invokevirtual 247, 3) := by decide +kernel
theorem dX2_turnInWalk_29 : decode cX2_turnInWalk 29 = .ok (.istore 6, 2) := by decide +kernel
theorem dX2_turnInWalk_31 : decode cX2_turnInWalk 31 = .ok (.iload 6, 2) := by decide +kernel
theorem dX2_turnInWalk_33 : decode cX2_turnInWalk 33 = .ok (.iload_n 3, 1) := by decide +kernel
theorem dX2_turnInWalk_34 : decode cX2_turnInWalk 34 = .ok (.if_icmp .lt 15, 3) := by decide +kernel
theorem dX2_turnInWalk_37 : decode cX2_turnInWalk 37 = .ok (.iload 6, 2) := by decide +kernel
theorem dX2_turnInWalk_39 : decode cX2_turnInWalk 39 = .ok (.iload_n 3, 1) := by decide +kernel
theorem dX2_turnInWalk_40 : decode cX2_turnInWalk 40 = .ok (.if_icmp .ne 12, 3) := by decide +kernel
theorem dX2_turnInWalk_43 : decode cX2_turnInWalk 43 = .ok (.iload 5, 2) := by decide +kernel
theorem dX2_turnInWalk_45 : decode cX2_turnInWalk 45 = .ok (.iload_n 2, 1) := by decide +kernel
theorem dX2_turnInWalk_46 : decode cX2_turnInWalk 46 = .ok (.if_icmp .ge 6, 3) := by decide +kernel
theorem dX2_turnInWalk_49 : decode cX2_turnInWalk 49 = .ok (.iinc 4 1, 3) := by decide +kernel
theorem dX2_turnInWalk_52 : decode cX2_turnInWalk 52 = .ok (.iinc 5 1, 3) := by decide +kernel
theorem dX2_turnInWalk_55 : decode cX2_turnInWalk 55 = .ok (.goto (-42), 3) := by decide +kernel
theorem dX2_turnInWalk_58 : decode cX2_turnInWalk 58 = .ok (.iload 4, 2) := by decide +kernel
theorem dX2_turnInWalk_60 : decode cX2_turnInWalk 60 = .ok (.ireturn, 1) := by decide +kernel
theorem dX2_houseOfTurn_0 : decode cX2_houseOfTurn 0 = .ok (.iconst 0, 1) := by decide +kernel
theorem dX2_houseOfTurn_1 : decode cX2_houseOfTurn 1 = .ok (.istore_n 3, 1) := by decide +kernel
theorem dX2_houseOfTurn_2 : decode cX2_houseOfTurn 2 = .ok (.iload_n 3, 1) := by decide +kernel
theorem dX2_houseOfTurn_3 : decode cX2_houseOfTurn 3 = .ok (.aload_n 0, 1) := by decide +kernel
theorem dX2_houseOfTurn_4 : decode cX2_houseOfTurn 4 = .ok (.getfield 22, 3) := by decide +kernel
theorem dX2_houseOfTurn_7 : decode cX2_houseOfTurn 7 = .ok (.if_icmp .ge 21, 3) := by decide +kernel
theorem dX2_houseOfTurn_10 : decode cX2_houseOfTurn 10 = .ok (.aload_n 0, 1) := by decide +kernel
theorem dX2_houseOfTurn_11 : decode cX2_houseOfTurn 11 = .ok (.aload_n 1, 1) := by decide +kernel
theorem dX2_houseOfTurn_12 : decode cX2_houseOfTurn 12 = .ok (.iload_n 3, 1) := by decide +kernel
theorem dX2_houseOfTurn_13 : decode cX2_houseOfTurn 13 = .ok (.invokevirtual 92, 3) := by decide +kernel
theorem dX2_houseOfTurn_16 : decode cX2_houseOfTurn 16 = .ok (.iload_n 2, 1) := by decide +kernel
theorem dX2_houseOfTurn_17 : decode cX2_houseOfTurn 17 = .ok (.if_icmp .ne 5, 3) := by decide +kernel
theorem dX2_houseOfTurn_20 : decode cX2_houseOfTurn 20 = .ok (.iload_n 3, 1) := by decide +kernel
theorem dX2_houseOfTurn_21 : decode cX2_houseOfTurn 21 = .ok (.ireturn, 1) := by decide +kernel
theorem dX2_houseOfTurn_22 : decode cX2_houseOfTurn 22 = .ok (.iinc 3 1, 3) := by decide +kernel
theorem dX2_houseOfTurn_25 : decode cX2_houseOfTurn 25 = .ok (.goto (-23), 3) := by decide +kernel
theorem dX2_houseOfTurn_28 : decode cX2_houseOfTurn 28 = .ok (.iconst 0, 1) := by decide +kernel
theorem dX2_houseOfTurn_29 : decode cX2_houseOfTurn 29 = .ok (.ireturn, 1) := by decide +kernel
theorem dX2_lengthOfWalk_0 : decode cX2_lengthOfWalk 0 = .ok (.iconst 0, 1) := by decide +kernel
theorem dX2_lengthOfWalk_1 : decode cX2_lengthOfWalk 1 = .ok (.istore_n 2, 1) := by decide +kernel
theorem dX2_lengthOfWalk_2 : decode cX2_lengthOfWalk 2 = .ok (.iconst 0, 1) := by decide +kernel
theorem dX2_lengthOfWalk_3 : decode cX2_lengthOfWalk 3 = .ok (.istore_n 3, 1) := by decide +kernel
theorem dX2_lengthOfWalk_4 : decode cX2_lengthOfWalk 4 = .ok (.iconst 0, 1) := by decide +kernel
theorem dX2_lengthOfWalk_5 : decode cX2_lengthOfWalk 5 = .ok (.istore 4, 2) := by decide +kernel
theorem dX2_lengthOfWalk_7 : decode cX2_lengthOfWalk 7 = .ok (.iload 4, 2) := by decide +kernel
theorem dX2_lengthOfWalk_9 : decode cX2_lengthOfWalk 9 = .ok (.aload_n 0, 1) := by decide +kernel
theorem dX2_lengthOfWalk_10 : decode cX2_lengthOfWalk 10 = .ok (.getfield 22, 3) := by decide +kernel
theorem dX2_lengthOfWalk_13 : decode cX2_lengthOfWalk 13 = .ok (.if_icmp .ge 31, 3) := by decide +kernel
theorem dX2_lengthOfWalk_16 : decode cX2_lengthOfWalk 16 = .ok (.aload_n 0, 1) := by decide +kernel
theorem dX2_lengthOfWalk_17 : decode cX2_lengthOfWalk 17 = .ok (.aload_n 1, 1) := by decide +kernel
theorem dX2_lengthOfWalk_18 : decode cX2_lengthOfWalk 18 = .ok (.iload 4, 2) := by decide +kernel
theorem dX2_lengthOfWalk_20 : decode cX2_lengthOfWalk 20 = .ok (.invokevirtual 250, 3) := by decide +kernel
theorem dX2_lengthOfWalk_23 : decode cX2_lengthOfWalk 23 = .ok (.istore 5, 2) := by decide +kernel
theorem dX2_lengthOfWalk_25 : decode cX2_lengthOfWalk 25 = .ok (.iload_n 2, 1) := by decide +kernel
theorem dX2_lengthOfWalk_26 : decode cX2_lengthOfWalk 26 = .ok (.iload 5, 2) := by decide +kernel
theorem dX2_lengthOfWalk_28 : decode cX2_lengthOfWalk 28 = .ok (.iload_n 3, 1) := by decide +kernel
theorem dX2_lengthOfWalk_29 : decode cX2_lengthOfWalk 29 = .ok (.isub, 1) := by decide +kernel
theorem dX2_lengthOfWalk_30 : decode cX2_lengthOfWalk 30 = .ok (.invokestatic 253, 3) := by decide +kernel
theorem dX2_lengthOfWalk_33 : decode cX2_lengthOfWalk 33 = .ok (.iadd, 1) := by decide +kernel
theorem dX2_lengthOfWalk_34 : decode cX2_lengthOfWalk 34 = .ok (.istore_n 2, 1) := by decide +kernel
theorem dX2_lengthOfWalk_35 : decode cX2_lengthOfWalk 35 = .ok (.iload 5, 2) := by decide +kernel
theorem dX2_lengthOfWalk_37 : decode cX2_lengthOfWalk 37 = .ok (.istore_n 3, 1) := by decide +kernel
theorem dX2_lengthOfWalk_38 : decode cX2_lengthOfWalk 38 = .ok (.iinc 4 1, 3) := by decide +kernel
theorem dX2_lengthOfWalk_41 : decode cX2_lengthOfWalk 41 = .ok (.goto (-34), 3) := by decide +kernel
theorem dX2_lengthOfWalk_44 : decode cX2_lengthOfWalk 44 = .ok (.iload_n 2, 1) := by decide +kernel
theorem dX2_lengthOfWalk_45 : decode cX2_lengthOfWalk 45 = .ok (.ireturn, 1) := by decide +kernel
theorem dX2_isDay_0 : decode cX2_isDay 0 = .ok (.aload_n 0, 1) := by decide +kernel
theorem dX2_isDay_1 : decode cX2_isDay 1 = .ok (.getfield 22, 3) := by decide +kernel
theorem dX2_isDay_4 : decode cX2_isDay 4 = .ok (.ifCond .le 22, 3) := by decide +kernel
theorem dX2_isDay_7 : decode cX2_isDay 7 = .ok (.iload_n 1, 1) := by decide +kernel
theorem dX2_isDay_8 : decode cX2_isDay 8 = .ok (.ifCond .lt 18, 3) := by decide +kernel
theorem dX2_isDay_11 : decode cX2_isDay 11 = .ok (.iload_n 1, 1) := by decide +kernel
theorem dX2_isDay_12 : decode cX2_isDay 12 = .ok (.aload_n 0, 1) := by decide +kernel
theorem dX2_isDay_13 : decode cX2_isDay 13 = .ok (.getfield 34, 3) := by decide +kernel
theorem dX2_isDay_16 : decode cX2_isDay 16 = .ok (.getfield 112, 3) := by decide +kernel
theorem dX2_isDay_19 : decode cX2_isDay 19 = .ok (.if_icmp .gt 7, 3) := by decide +kernel
theorem dX2_isDay_22 : decode cX2_isDay 22 = .ok (.iconst 1, 1) := by decide +kernel
theorem dX2_isDay_23 : decode cX2_isDay 23 = .ok (.goto 4, 3) := by decide +kernel
theorem dX2_isDay_26 : decode cX2_isDay 26 = .ok (.iconst 0, 1) := by decide +kernel
theorem dX2_isDay_27 : decode cX2_isDay 27 = .ok (.ireturn, 1) := by decide +kernel
theorem dX2_cellOf_0 : decode cX2_cellOf 0 = .ok (.iload_n 1, 1) := by decide +kernel
theorem dX2_cellOf_1 : decode cX2_cellOf 1 = .ok (.bipush 6, 2) := by decide +kernel
theorem dX2_cellOf_3 : decode cX2_cellOf 3 = .ok (.imul, 1) := by decide +kernel
theorem dX2_cellOf_4 : decode cX2_cellOf 4 = .ok (.iload_n 0, 1) := by decide +kernel
theorem dX2_cellOf_5 : decode cX2_cellOf 5 = .ok (.iadd, 1) := by decide +kernel
theorem dX2_cellOf_6 : decode cX2_cellOf 6 = .ok (.ireturn, 1) := by decide +kernel
theorem dX2_numberNow_0 : decode cX2_numberNow 0 = .ok (.aload_n 0, 1) := by decide +kernel
theorem dX2_numberNow_1 : decode cX2_numberNow 1 = .ok (.aload_n 0, 1) := by decide +kernel
theorem dX2_numberNow_2 : decode cX2_numberNow 2 = .ok (.getfield 34, 3) := by decide +kernel
theorem dX2_numberNow_5 : decode cX2_numberNow 5 = .ok (.getfield 76, 3) := by decide +kernel
theorem dX2_numberNow_8 : decode cX2_numberNow 8 = .ok (.iload_n 1, 1) := by decide +kernel
theorem dX2_numberNow_9 : decode cX2_numberNow 9 = .ok (.invokevirtual 247, 3) := by decide +kernel
theorem dX2_numberNow_12 : decode cX2_numberNow 12 = .ok (.ireturn, 1) := by decide +kernel
theorem dX2_numberOn_0 : decode cX2_numberOn 0 = .ok (.iload_n 2, 1) := by decide +kernel
theorem dX2_numberOn_1 : decode cX2_numberOn 1 = .ok (.aload_n 0, 1) := by decide +kernel
theorem dX2_numberOn_2 : decode cX2_numberOn 2 = .ok (.getfield 34, 3) := by decide +kernel
theorem dX2_numberOn_5 : decode cX2_numberOn 5 = .ok (.getfield 112, 3) := by decide +kernel
theorem dX2_numberOn_8 : decode cX2_numberOn 8 = .ok (.if_icmp .ne 17, 3) := by decide +kernel
theorem dX2_numberOn_11 : decode cX2_numberOn 11 = .ok (.aload_n 0, 1) := by decide +kernel
theorem dX2_numberOn_12 : decode cX2_numberOn 12 = .ok (.getfield 34, 3) := by decide +kernel
theorem dX2_numberOn_15 : decode cX2_numberOn 15 = .ok (.getfield 76, 3) := by decide +kernel
theorem dX2_numberOn_18 : decode cX2_numberOn 18 = .ok (.iload_n 1, 1) := by decide +kernel
theorem dX2_numberOn_19 : decode cX2_numberOn 19 = .ok (.invokevirtual 58, 3) := by decide +kernel
theorem dX2_numberOn_22 : decode cX2_numberOn 22 = .ok (.goto 18, 3) := by decide +kernel
theorem dX2_numberOn_25 : decode cX2_numberOn 25 = .ok (.aload_n 0, 1) := by decide +kernel
theorem dX2_numberOn_26 : decode cX2_numberOn 26 = .ok (.getfield 34, 3) := by decide +kernel
theorem dX2_numberOn_29 : decode cX2_numberOn 29 = .ok (.getfield 115, 3) := by decide +kernel
theorem dX2_numberOn_32 : decode cX2_numberOn 32 = .ok (.iload_n 1, 1) := by decide +kernel
theorem dX2_numberOn_33 : decode cX2_numberOn 33 = .ok (.iload_n 2, 1) := by decide +kernel
theorem dX2_numberOn_34 : decode cX2_numberOn 34 = .ok (.invokestatic 118, 3) := by decide +kernel
theorem dX2_numberOn_37 : decode cX2_numberOn 37 = .ok (.invokevirtual 58, 3) := by decide +kernel
theorem dX2_numberOn_40 : decode cX2_numberOn 40 = .ok (.istore_n 3, 1) := by decide +kernel
theorem dX2_numberOn_41 : decode cX2_numberOn 41 = .ok (.aload_n 0, 1) := by decide +kernel
theorem dX2_numberOn_42 : decode cX2_numberOn 42 = .ok (.getfield 28, 3) := by decide +kernel
theorem dX2_numberOn_45 : decode cX2_numberOn 45 = .ok (.iload_n 1, 1) := by decide +kernel
theorem dX2_numberOn_46 : decode cX2_numberOn 46 = .ok (.invokevirtual 58, 3) := by decide +kernel
theorem dX2_numberOn_49 : decode cX2_numberOn 49 = .ok (.iload_n 3, 1) := by decide +kernel
theorem dX2_numberOn_50 : decode cX2_numberOn 50 = .ok (.invokestatic 156, 3) := by decide +kernel
theorem dX2_numberOn_53 : decode cX2_numberOn 53 = .ok (.ireturn, 1) := by decide +kernel
theorem dX2_houseWith_0 : decode cX2_houseWith 0 = .ok (.iconst 0, 1) := by decide +kernel
theorem dX2_houseWith_1 : decode cX2_houseWith 1 = .ok (.istore_n 3, 1) := by decide +kernel
theorem dX2_houseWith_2 : decode cX2_houseWith 2 = .ok (.iload_n 3, 1) := by decide +kernel
theorem dX2_houseWith_3 : decode cX2_houseWith 3 = .ok (.aload_n 0, 1) := by decide +kernel
theorem dX2_houseWith_4 : decode cX2_houseWith 4 = .ok (.getfield 22, 3) := by decide +kernel
theorem dX2_houseWith_7 : decode cX2_houseWith 7 = .ok (.if_icmp .ge 21, 3) := by decide +kernel
theorem dX2_houseWith_10 : decode cX2_houseWith 10 = .ok (.aload_n 0, 1) := by decide +kernel
theorem dX2_houseWith_11 : decode cX2_houseWith 11 = .ok (.iload_n 3, 1) := by decide +kernel
theorem dX2_houseWith_12 : decode cX2_houseWith 12 = .ok (.iload_n 2, 1) := by decide +kernel
theorem dX2_houseWith_13 : decode cX2_houseWith 13 = .ok (.invokevirtual 129, 3) := by decide +kernel
theorem dX2_houseWith_16 : decode cX2_houseWith 16 = .ok (.iload_n 1, 1) := by decide +kernel
theorem dX2_houseWith_17 : decode cX2_houseWith 17 = .ok (.if_icmp .ne 5, 3) := by decide +kernel
theorem dX2_houseWith_20 : decode cX2_houseWith 20 = .ok (.iload_n 3, 1) := by decide +kernel
theorem dX2_houseWith_21 : decode cX2_houseWith 21 = .ok (.ireturn, 1) := by decide +kernel
theorem dX2_houseWith_22 : decode cX2_houseWith 22 = .ok (.iinc 3 1, 3) := by decide +kernel
theorem dX2_houseWith_25 : decode cX2_houseWith 25 = .ok (.goto (-23), 3) := by decide +kernel
theorem dX2_houseWith_28 : decode cX2_houseWith 28 = .ok (.iconst (-1), 1) := by decide +kernel
theorem dX2_houseWith_29 : decode cX2_houseWith 29 = .ok (.ireturn, 1) := by decide +kernel
theorem dX2_unlikeNumbers_0 : decode cX2_unlikeNumbers 0 = .ok (.iconst 0, 1) := by decide +kernel
theorem dX2_unlikeNumbers_1 : decode cX2_unlikeNumbers 1 = .ok (.istore_n 1, 1) := by decide +kernel
theorem dX2_unlikeNumbers_2 : decode cX2_unlikeNumbers 2 = .ok (.iconst 0, 1) := by decide +kernel
theorem dX2_unlikeNumbers_3 : decode cX2_unlikeNumbers 3 = .ok (.istore_n 2, 1) := by decide +kernel
theorem dX2_unlikeNumbers_4 : decode cX2_unlikeNumbers 4 = .ok (.iload_n 2, 1) := by decide +kernel
theorem dX2_unlikeNumbers_5 : decode cX2_unlikeNumbers 5 = .ok (.aload_n 0, 1) := by decide +kernel
theorem dX2_unlikeNumbers_6 : decode cX2_unlikeNumbers 6 = .ok (.getfield 22, 3) := by decide +kernel
theorem dX2_unlikeNumbers_9 : decode cX2_unlikeNumbers 9 = .ok (.if_icmp .ge 32, 3) := by decide +kernel
theorem dX2_unlikeNumbers_12 : decode cX2_unlikeNumbers 12 = .ok (.aload_n 0, 1) := by decide +kernel
theorem dX2_unlikeNumbers_13 : decode cX2_unlikeNumbers 13 = .ok (.aload_n 0, 1) := by decide +kernel
theorem dX2_unlikeNumbers_14 : decode cX2_unlikeNumbers 14 = .ok (.iload_n 2, 1) := by decide +kernel
theorem dX2_unlikeNumbers_15 : decode cX2_unlikeNumbers 15 = .ok (.invokevirtual 83, 3) := by decide +kernel
theorem dX2_unlikeNumbers_18 : decode cX2_unlikeNumbers 18 = .ok (.aload_n 0, 1) := by decide +kernel
theorem dX2_unlikeNumbers_19 : decode cX2_unlikeNumbers 19 = .ok (.getfield 34, 3) := by decide +kernel
theorem dX2_unlikeNumbers_22 : decode cX2_unlikeNumbers 22 = .ok (.getfield 112, 3) := by decide +kernel
theorem dX2_unlikeNumbers_25 : decode cX2_unlikeNumbers 25 = .ok (.invokevirtual 132, 3) := by decide +kernel
theorem dX2_unlikeNumbers_28 : decode cX2_unlikeNumbers 28 = .ok (.iload_n 2, 1) := by decide +kernel
theorem dX2_unlikeNumbers_29 : decode cX2_unlikeNumbers 29 = .ok (.if_icmp .ne 6, 3) := by decide +kernel
theorem dX2_unlikeNumbers_32 : decode cX2_unlikeNumbers 32 = .ok (.iinc 1 1, 3) := by decide +kernel
theorem dX2_unlikeNumbers_35 : decode cX2_unlikeNumbers 35 = .ok (.iinc 2 1, 3) := by decide +kernel
theorem dX2_unlikeNumbers_38 : decode cX2_unlikeNumbers 38 = .ok (.goto (-34), 3) := by decide +kernel
theorem dX2_unlikeNumbers_41 : decode cX2_unlikeNumbers 41 = .ok (.iload_n 1, 1) := by decide +kernel
theorem dX2_unlikeNumbers_42 : decode cX2_unlikeNumbers 42 = .ok (.ireturn, 1) := by decide +kernel
theorem dX2_owedBy_0 : decode cX2_owedBy 0 = .ok (.iconst 0, 1) := by decide +kernel
theorem dX2_owedBy_1 : decode cX2_owedBy 1 = .ok (.istore_n 2, 1) := by decide +kernel
theorem dX2_owedBy_2 : decode cX2_owedBy 2 = .ok (.iconst 0, 1) := by decide +kernel
theorem dX2_owedBy_3 : decode cX2_owedBy 3 = .ok (.istore_n 3, 1) := by decide +kernel
theorem dX2_owedBy_4 : decode cX2_owedBy 4 = .ok (.iload_n 3, 1) := by decide +kernel
theorem dX2_owedBy_5 : decode cX2_owedBy 5 = .ok (.aload_n 0, 1) := by decide +kernel
theorem dX2_owedBy_6 : decode cX2_owedBy 6 = .ok (.getfield 34, 3) := by decide +kernel
theorem dX2_owedBy_9 : decode cX2_owedBy 9 = .ok (.getfield 139, 3) := by decide +kernel
theorem dX2_owedBy_12 : decode cX2_owedBy 12 = .ok (.if_icmp .ge 49, 3) := by decide +kernel
theorem dX2_owedBy_15 : decode cX2_owedBy 15 = .ok (.aload_n 0, 1) := by decide +kernel
theorem dX2_owedBy_16 : decode cX2_owedBy 16 = .ok (.aload_n 0, 1) := by decide +kernel
theorem dX2_owedBy_17 : decode cX2_owedBy 17 = .ok (.getfield 34, 3) := by decide +kernel
theorem dX2_owedBy_20 : decode cX2_owedBy 20 = .ok (.getfield 145, 3) := by decide +kernel
theorem dX2_owedBy_23 : decode cX2_owedBy 23 = .ok (.iload_n 3, 1) := by decide +kernel
theorem dX2_owedBy_24 : decode cX2_owedBy 24 = .ok (.invokevirtual 58, 3) := by decide +kernel
theorem dX2_owedBy_27 : decode cX2_owedBy 27 = .ok (.aload_n 0, 1) := by decide +kernel
theorem dX2_owedBy_28 : decode cX2_owedBy 28 = .ok (.getfield 34, 3) := by decide +kernel
theorem dX2_owedBy_31 : decode cX2_owedBy 31 = .ok (.getfield 112, 3) := by decide +kernel
theorem dX2_owedBy_34 : decode cX2_owedBy 34 = .ok (.invokevirtual 132, 3) := by decide +kernel
theorem dX2_owedBy_37 : decode cX2_owedBy 37 = .ok (.iload_n 1, 1) := by decide +kernel
theorem dX2_owedBy_38 : decode cX2_owedBy 38 = .ok (.if_icmp .ne 17, 3) := by decide +kernel
theorem dX2_owedBy_41 : decode cX2_owedBy 41 = .ok (.iload_n 2, 1) := by decide +kernel
theorem dX2_owedBy_42 : decode cX2_owedBy 42 = .ok (.aload_n 0, 1) := by decide +kernel
theorem dX2_owedBy_43 : decode cX2_owedBy 43 = .ok (.getfield 34, 3) := by decide +kernel
theorem dX2_owedBy_46 : decode cX2_owedBy 46 = .ok (.getfield 142, 3) := by decide +kernel
theorem dX2_owedBy_49 : decode cX2_owedBy 49 = .ok (.iload_n 3, 1) := by decide +kernel
theorem dX2_owedBy_50 : decode cX2_owedBy 50 = .ok (.invokevirtual 58, 3) := by decide +kernel
theorem dX2_owedBy_53 : decode cX2_owedBy 53 = .ok (.iadd, 1) := by decide +kernel
theorem dX2_owedBy_54 : decode cX2_owedBy 54 = .ok (.istore_n 2, 1) := by decide +kernel
theorem dX2_owedBy_55 : decode cX2_owedBy 55 = .ok (.iinc 3 1, 3) := by decide +kernel
theorem dX2_owedBy_58 : decode cX2_owedBy 58 = .ok (.goto (-54), 3) := by decide +kernel
theorem dX2_owedBy_61 : decode cX2_owedBy 61 = .ok (.iload_n 2, 1) := by decide +kernel
theorem dX2_owedBy_62 : decode cX2_owedBy 62 = .ok (.ireturn, 1) := by decide +kernel
theorem dX2_owedByAll_0 : decode cX2_owedByAll 0 = .ok (.iconst 0, 1) := by decide +kernel
theorem dX2_owedByAll_1 : decode cX2_owedByAll 1 = .ok (.istore_n 1, 1) := by decide +kernel
theorem dX2_owedByAll_2 : decode cX2_owedByAll 2 = .ok (.iconst 0, 1) := by decide +kernel
theorem dX2_owedByAll_3 : decode cX2_owedByAll 3 = .ok (.istore_n 2, 1) := by decide +kernel
theorem dX2_owedByAll_4 : decode cX2_owedByAll 4 = .ok (.iload_n 2, 1) := by decide +kernel
theorem dX2_owedByAll_5 : decode cX2_owedByAll 5 = .ok (.aload_n 0, 1) := by decide +kernel
theorem dX2_owedByAll_6 : decode cX2_owedByAll 6 = .ok (.getfield 22, 3) := by decide +kernel
theorem dX2_owedByAll_9 : decode cX2_owedByAll 9 = .ok (.if_icmp .ge 17, 3) := by decide +kernel
theorem dX2_owedByAll_12 : decode cX2_owedByAll 12 = .ok (.iload_n 1, 1) := by decide +kernel
theorem dX2_owedByAll_13 : decode cX2_owedByAll 13 = .ok (.aload_n 0, 1) := by decide +kernel
theorem dX2_owedByAll_14 : decode cX2_owedByAll 14 = .ok (.iload_n 2, 1) := by decide +kernel
theorem dX2_owedByAll_15 : decode cX2_owedByAll 15 = .ok (.invokevirtual 89, 3) := by decide +kernel
theorem dX2_owedByAll_18 : decode cX2_owedByAll 18 = .ok (.iadd, 1) := by decide +kernel
theorem dX2_owedByAll_19 : decode cX2_owedByAll 19 = .ok (.istore_n 1, 1) := by decide +kernel
theorem dX2_owedByAll_20 : decode cX2_owedByAll 20 = .ok (.iinc 2 1, 3) := by decide +kernel
theorem dX2_owedByAll_23 : decode cX2_owedByAll 23 = .ok (.goto (-19), 3) := by decide +kernel
theorem dX2_owedByAll_26 : decode cX2_owedByAll 26 = .ok (.iload_n 1, 1) := by decide +kernel
theorem dX2_owedByAll_27 : decode cX2_owedByAll 27 = .ok (.ireturn, 1) := by decide +kernel
theorem dX2_cheapestSet_0 : decode cX2_cheapestSet 0 = .ok (.iconst (-1), 1) := by decide +kernel
theorem dX2_cheapestSet_1 : decode cX2_cheapestSet 1 = .ok (.istore_n 2, 1) := by decide +kernel
theorem dX2_cheapestSet_2 : decode cX2_cheapestSet 2 = .ok (.iconst 0, 1) := by decide +kernel
theorem dX2_cheapestSet_3 : decode cX2_cheapestSet 3 = .ok (.istore_n 3, 1) := by decide +kernel
theorem dX2_cheapestSet_4 : decode cX2_cheapestSet 4 = .ok (.iload_n 3, 1) := by decide +kernel
theorem dX2_cheapestSet_5 : decode cX2_cheapestSet 5 = .ok (.iconst 1, 1) := by decide +kernel
theorem dX2_cheapestSet_6 : decode cX2_cheapestSet 6 = .ok (.aload_n 0, 1) := by decide +kernel
theorem dX2_cheapestSet_7 : decode cX2_cheapestSet 7 = .ok (.getfield 22, 3) := by decide +kernel
theorem dX2_cheapestSet_10 : decode cX2_cheapestSet 10 = .ok (.ishl, 1) := by decide +kernel
theorem dX2_cheapestSet_11 : decode cX2_cheapestSet 11 = .ok (.if_icmp .ge 56, 3) := by decide +kernel
theorem dX2_cheapestSet_14 : decode cX2_cheapestSet 14 = .ok (.iload_n 2, 1) := by decide +kernel
theorem dX2_cheapestSet_15 : decode cX2_cheapestSet 15 = .ok (.iconst (-1), 1) := by decide +kernel
theorem dX2_cheapestSet_16 : decode cX2_cheapestSet 16 = .ok (.if_icmp .eq 14, 3) := by decide +kernel
theorem dX2_cheapestSet_19 : decode cX2_cheapestSet 19 = .ok (.iload_n 3, 1) := by decide +kernel
theorem dX2_cheapestSet_20 : decode cX2_cheapestSet 20 = .ok (.invokestatic 151, 3) := by decide +kernel
theorem dX2_cheapestSet_23 : decode cX2_cheapestSet 23 = .ok (.iload_n 2, 1) := by decide +kernel
theorem dX2_cheapestSet_24 : decode cX2_cheapestSet 24 = .ok (.invokestatic 151, 3) := by decide +kernel
theorem dX2_cheapestSet_27 : decode cX2_cheapestSet 27 = .ok (.if_icmp .ge 7, 3) := by decide +kernel
theorem dX2_cheapestSet_30 : decode cX2_cheapestSet 30 = .ok (.iconst 1, 1) := by decide +kernel
theorem dX2_cheapestSet_31 : decode cX2_cheapestSet 31 = .ok (.goto 4, 3) := by decide +kernel
theorem dX2_cheapestSet_34 : decode cX2_cheapestSet 34 = .ok (.iconst 0, 1) := by decide +kernel
theorem dX2_cheapestSet_35 : decode cX2_cheapestSet 35 = .ok (.istore 4, 2) := by decide +kernel
theorem dX2_cheapestSet_37 : decode cX2_cheapestSet 37 = .ok (.iload 4, 2) := by decide +kernel
theorem dX2_cheapestSet_39 : decode cX2_cheapestSet 39 = .ok (.ifCond .eq 22, 3) := by decide +kernel
theorem dX2_cheapestSet_42 : decode cX2_cheapestSet 42 = .ok (.aload_n 0, 1) := by decide +kernel
theorem dX2_cheapestSet_43 : decode cX2_cheapestSet 43 = .ok (.iload_n 3, 1) := by decide +kernel
theorem dX2_cheapestSet_44 : decode cX2_cheapestSet 44 = .ok (.invokevirtual 258, 3) := by decide +kernel
theorem dX2_cheapestSet_47 : decode cX2_cheapestSet 47 = .ok (.ifCond .eq 14, 3) := by decide +kernel
theorem dX2_cheapestSet_50 : decode cX2_cheapestSet 50 = .ok (.aload_n 0, 1) := by decide +kernel
theorem dX2_cheapestSet_51 : decode cX2_cheapestSet 51 = .ok (.iload_n 3, 1) := by decide +kernel
theorem dX2_cheapestSet_52 : decode cX2_cheapestSet 52 = .ok (.invokevirtual 261, 3) := by decide +kernel
theorem dX2_cheapestSet_55 : decode cX2_cheapestSet 55 = .ok (.iload_n 1, 1) := by decide +kernel
theorem dX2_cheapestSet_56 : decode cX2_cheapestSet 56 = .ok (.if_icmp .gt 5, 3) := by decide +kernel
theorem dX2_cheapestSet_59 : decode cX2_cheapestSet 59 = .ok (.iload_n 3, 1) := by decide +kernel
theorem dX2_cheapestSet_60 : decode cX2_cheapestSet 60 = .ok (.istore_n 2, 1) := by decide +kernel
theorem dX2_cheapestSet_61 : decode cX2_cheapestSet 61 = .ok (.iinc 3 1, 3) := by decide +kernel
theorem dX2_cheapestSet_64 : decode cX2_cheapestSet 64 = .ok (.goto (-60), 3) := by decide +kernel
theorem dX2_cheapestSet_67 : decode cX2_cheapestSet 67 = .ok (.iload_n 2, 1) := by decide +kernel
theorem dX2_cheapestSet_68 : decode cX2_cheapestSet 68 = .ok (.ireturn, 1) := by decide +kernel
theorem dX2_isIn_0 : decode cX2_isIn 0 = .ok (.iload_n 0, 1) := by decide +kernel
theorem dX2_isIn_1 : decode cX2_isIn 1 = .ok (.iload_n 1, 1) := by decide +kernel
theorem dX2_isIn_2 : decode cX2_isIn 2 = .ok (.ishr, 1) := by decide +kernel
theorem dX2_isIn_3 : decode cX2_isIn 3 = .ok (.iconst 1, 1) := by decide +kernel
theorem dX2_isIn_4 : decode cX2_isIn 4 = .ok (.iand, 1) := by decide +kernel
theorem dX2_isIn_5 : decode cX2_isIn 5 = .ok (.iconst 1, 1) := by decide +kernel
theorem dX2_isIn_6 : decode cX2_isIn 6 = .ok (.if_icmp .ne 7, 3) := by decide +kernel
theorem dX2_isIn_9 : decode cX2_isIn 9 = .ok (.iconst 1, 1) := by decide +kernel
theorem dX2_isIn_10 : decode cX2_isIn 10 = .ok (.goto 4, 3) := by decide +kernel
theorem dX2_isIn_13 : decode cX2_isIn 13 = .ok (.iconst 0, 1) := by decide +kernel
theorem dX2_isIn_14 : decode cX2_isIn 14 = .ok (.ireturn, 1) := by decide +kernel
theorem dX2_mayAllBear_0 : decode cX2_mayAllBear 0 = .ok (.iconst 0, 1) := by decide +kernel
theorem dX2_mayAllBear_1 : decode cX2_mayAllBear 1 = .ok (.istore_n 2, 1) := by decide +kernel
theorem dX2_mayAllBear_2 : decode cX2_mayAllBear 2 = .ok (.iload_n 2, 1) := by decide +kernel
theorem dX2_mayAllBear_3 : decode cX2_mayAllBear 3 = .ok (.aload_n 0, 1) := by decide +kernel
theorem dX2_mayAllBear_4 : decode cX2_mayAllBear 4 = .ok (.getfield 22, 3) := by decide +kernel
theorem dX2_mayAllBear_7 : decode cX2_mayAllBear 7 = .ok (.if_icmp .ge 34, 3) := by decide +kernel
theorem dX2_mayAllBear_10 : decode cX2_mayAllBear 10 = .ok (.iload_n 1, 1) := by decide +kernel
theorem dX2_mayAllBear_11 : decode cX2_mayAllBear 11 = .ok (.iload_n 2, 1) := by decide +kernel
theorem dX2_mayAllBear_12 : decode cX2_mayAllBear 12 = .ok (.invokestatic 264, 3) := by decide +kernel
theorem dX2_mayAllBear_15 : decode cX2_mayAllBear 15 = .ok (.ifCond .eq 20, 3) := by decide +kernel
theorem dX2_mayAllBear_18 : decode cX2_mayAllBear 18 = .ok (.aload_n 0, 1) := by decide +kernel
theorem dX2_mayAllBear_19 : decode cX2_mayAllBear 19 = .ok (.getfield 28, 3) := by decide +kernel
theorem dX2_mayAllBear_22 : decode cX2_mayAllBear 22 = .ok (.iload_n 2, 1) := by decide +kernel
theorem dX2_mayAllBear_23 : decode cX2_mayAllBear 23 = .ok (.invokevirtual 58, 3) := by decide +kernel
theorem dX2_mayAllBear_26 : decode cX2_mayAllBear 26 = .ok (.iconst 2, 1) := by decide +kernel
theorem dX2_mayAllBear_27 : decode cX2_mayAllBear 27 = .ok (.invokestatic 96, 3) := by decide +kernel
theorem dX2_mayAllBear_30 : decode cX2_mayAllBear 30 = .ok (.ifCond .eq 5, 3) := by decide +kernel
theorem dX2_mayAllBear_33 : decode cX2_mayAllBear 33 = .ok (.iconst 0, 1) := by decide +kernel
theorem dX2_mayAllBear_34 : decode cX2_mayAllBear 34 = .ok (.ireturn, 1) := by decide +kernel
theorem dX2_mayAllBear_35 : decode cX2_mayAllBear 35 = .ok (.iinc 2 1, 3) := by decide +kernel
theorem dX2_mayAllBear_38 : decode cX2_mayAllBear 38 = .ok (.goto (-36), 3) := by decide +kernel
theorem dX2_mayAllBear_41 : decode cX2_mayAllBear 41 = .ok (.iconst 1, 1) := by decide +kernel
theorem dX2_mayAllBear_42 : decode cX2_mayAllBear 42 = .ok (.ireturn, 1) := by decide +kernel
theorem dX2_numbersBy_0 : decode cX2_numbersBy 0 = .ok (.aload_n 0, 1) := by decide +kernel
theorem dX2_numbersBy_1 : decode cX2_numbersBy 1 = .ok (.getfield 45, 3) := by decide +kernel
theorem dX2_numbersBy_4 : decode cX2_numbersBy 4 = .ok (.aload_n 0, 1) := by decide +kernel
theorem dX2_numbersBy_5 : decode cX2_numbersBy 5 = .ok (.getfield 34, 3) := by decide +kernel
theorem dX2_numbersBy_8 : decode cX2_numbersBy 8 = .ok (.getfield 76, 3) := by decide +kernel
theorem dX2_numbersBy_11 : decode cX2_numbersBy 11 = .ok (.invokevirtual 180, 3) := by decide +kernel
theorem dX2_numbersBy_14 : decode cX2_numbersBy 14 = .ok (.iconst 0, 1) := by decide +kernel
theorem dX2_numbersBy_15 : decode cX2_numbersBy 15 = .ok (.istore_n 2, 1) := by decide +kernel
theorem dX2_numbersBy_16 : decode cX2_numbersBy 16 = .ok (.iload_n 2, 1) := by decide +kernel
theorem dX2_numbersBy_17 : decode cX2_numbersBy 17 = .ok (.aload_n 0, 1) := by decide +kernel
theorem dX2_numbersBy_18 : decode cX2_numbersBy 18 = .ok (.getfield 22, 3) := by decide +kernel
theorem dX2_numbersBy_21 : decode cX2_numbersBy 21 = .ok (.if_icmp .ge 26, 3) := by decide +kernel
theorem dX2_numbersBy_24 : decode cX2_numbersBy 24 = .ok (.iload_n 1, 1) := by decide +kernel
theorem dX2_numbersBy_25 : decode cX2_numbersBy 25 = .ok (.iload_n 2, 1) := by decide +kernel
theorem dX2_numbersBy_26 : decode cX2_numbersBy 26 = .ok (.invokestatic 264, 3) := by decide +kernel
theorem dX2_numbersBy_29 : decode cX2_numbersBy 29 = .ok (.ifCond .eq 12, 3) := by decide +kernel
theorem dX2_numbersBy_32 : decode cX2_numbersBy 32 = .ok (.aload_n 0, 1) := by decide +kernel
theorem dX2_numbersBy_33 : decode cX2_numbersBy 33 = .ok (.aload_n 0, 1) := by decide +kernel
theorem dX2_numbersBy_34 : decode cX2_numbersBy 34 = .ok (.getfield 45, 3) := by decide +kernel
theorem dX2_numbersBy_37 : decode cX2_numbersBy 37 = .ok (.iload_n 2, 1) := by decide +kernel
theorem dX2_numbersBy_38 : decode cX2_numbersBy 38 = .ok (.invokevirtual 99, 3) := by decide +kernel
theorem dX2_numbersBy_41 : decode cX2_numbersBy 41 = .ok (.iinc 2 1, 3) := by decide +kernel
theorem dX2_numbersBy_44 : decode cX2_numbersBy 44 = .ok (.goto (-28), 3) := by decide +kernel
theorem dX2_numbersBy_47 : decode cX2_numbersBy 47 = .ok (.aload_n 0, 1) := by decide +kernel
theorem dX2_numbersBy_48 : decode cX2_numbersBy 48 = .ok (.aload_n 0, 1) := by decide +kernel
theorem dX2_numbersBy_49 : decode cX2_numbersBy 49 = .ok (.getfield 45, 3) := by decide +kernel
theorem dX2_numbersBy_52 : decode cX2_numbersBy 52 = .ok (.invokevirtual 192, 3) := by decide +kernel
theorem dX2_numbersBy_55 : decode cX2_numbersBy 55 = .ok (.ireturn, 1) := by decide +kernel
theorem dX2_canHaveBeen_0 : decode cX2_canHaveBeen 0 = .ok (.iconst 0, 1) := by decide +kernel
theorem dX2_canHaveBeen_1 : decode cX2_canHaveBeen 1 = .ok (.istore_n 2, 1) := by decide +kernel
theorem dX2_canHaveBeen_2 : decode cX2_canHaveBeen 2 = .ok (.iload_n 2, 1) := by decide +kernel
theorem dX2_canHaveBeen_3 : decode cX2_canHaveBeen 3 = .ok (.aload_n 0, 1) := by decide +kernel
theorem dX2_canHaveBeen_4 : decode cX2_canHaveBeen 4 = .ok (.getfield 34, 3) := by decide +kernel
theorem dX2_canHaveBeen_7 : decode cX2_canHaveBeen 7 = .ok (.getfield 162, 3) := by decide +kernel
theorem dX2_canHaveBeen_10 : decode cX2_canHaveBeen 10 = .ok (.if_icmp .ge 41, 3) := by decide +kernel
theorem dX2_canHaveBeen_13 : decode cX2_canHaveBeen 13 = .ok (.aload_n 0, 1) := by decide +kernel
theorem dX2_canHaveBeen_14 : decode cX2_canHaveBeen 14 = .ok (.aload_n 0, 1) := by decide +kernel
theorem dX2_canHaveBeen_15 : decode cX2_canHaveBeen 15 = .ok (.getfield 34, 3) := by decide +kernel
theorem dX2_canHaveBeen_18 : decode cX2_canHaveBeen 18 = .ok (.getfield 165, 3) := by decide +kernel
theorem dX2_canHaveBeen_21 : decode cX2_canHaveBeen 21 = .ok (.iload_n 2, 1) := by decide +kernel
theorem dX2_canHaveBeen_22 : decode cX2_canHaveBeen 22 = .ok (.invokevirtual 58, 3) := by decide +kernel
theorem dX2_canHaveBeen_25 : decode cX2_canHaveBeen 25 = .ok (.iload_n 1, 1) := by decide +kernel
theorem dX2_canHaveBeen_26 : decode cX2_canHaveBeen 26 = .ok (.invokevirtual 129, 3) := by decide +kernel
theorem dX2_canHaveBeen_29 : decode cX2_canHaveBeen 29 = .ok (.aload_n 0, 1) := by decide +kernel
theorem dX2_canHaveBeen_30 : decode cX2_canHaveBeen 30 = .ok (.getfield 34, 3) := by decide +kernel
theorem dX2_canHaveBeen_33 : decode cX2_canHaveBeen 33 = .ok (.getfield 168, 3) := by decide +kernel
theorem dX2_canHaveBeen_36 : decode cX2_canHaveBeen 36 = .ok (.iload_n 2, 1) := by decide +kernel
theorem dX2_canHaveBeen_37 : decode cX2_canHaveBeen 37 = .ok (.invokevirtual 58, 3) := by decide +kernel
theorem dX2_canHaveBeen_40 : decode cX2_canHaveBeen 40 = .ok (.if_icmp .eq 5, 3) := by decide +kernel
theorem dX2_canHaveBeen_43 : decode cX2_canHaveBeen 43 = .ok (.iconst 0, 1) := by decide +kernel
theorem dX2_canHaveBeen_44 : decode cX2_canHaveBeen 44 = .ok (.ireturn, 1) := by decide +kernel
theorem dX2_canHaveBeen_45 : decode cX2_canHaveBeen 45 = .ok (.iinc 2 1, 3) := by decide +kernel
theorem dX2_canHaveBeen_48 : decode cX2_canHaveBeen 48 = .ok (.goto (-46), 3) := by decide +kernel
theorem dX2_canHaveBeen_51 : decode cX2_canHaveBeen 51 = .ok (.iconst 1, 1) := by decide +kernel
theorem dX2_canHaveBeen_52 : decode cX2_canHaveBeen 52 = .ok (.ireturn, 1) := by decide +kernel
theorem dX2_markPossibleDays_0 : decode cX2_markPossibleDays 0 = .ok (.iconst 0, 1) := by decide +kernel
theorem dX2_markPossibleDays_1 : decode cX2_markPossibleDays 1 = .ok (.istore_n 1, 1) := by decide +kernel
theorem dX2_markPossibleDays_2 : decode cX2_markPossibleDays 2 = .ok (.iconst 0, 1) := by decide +kernel
theorem dX2_markPossibleDays_3 : decode cX2_markPossibleDays 3 = .ok (.istore_n 2, 1) := by decide +kernel
theorem dX2_markPossibleDays_4 : decode cX2_markPossibleDays 4 = .ok (.iload_n 2, 1) := by decide +kernel
theorem dX2_markPossibleDays_5 : decode cX2_markPossibleDays 5 = .ok (.aload_n 0, 1) := by decide +kernel
theorem dX2_markPossibleDays_6 : decode cX2_markPossibleDays 6 = .ok (.getfield 34, 3) := by decide +kernel
theorem dX2_markPossibleDays_9 : decode cX2_markPossibleDays 9 = .ok (.getfield 112, 3) := by decide +kernel
theorem dX2_markPossibleDays_12 : decode cX2_markPossibleDays 12 = .ok (.if_icmp .gt 39, 3) := by decide +kernel
theorem dX2_markPossibleDays_15 : decode cX2_markPossibleDays 15 = .ok (.aload_n 0, 1) := by decide +kernel
theorem dX2_markPossibleDays_16 : decode cX2_markPossibleDays 16 = .ok (.iload_n 2, 1) := by decide +kernel
theorem dX2_markPossibleDays_17 : decode cX2_markPossibleDays 17 = .ok (.invokevirtual 171, 3) := by decide +kernel
theorem dX2_markPossibleDays_20 : decode cX2_markPossibleDays 20 = .ok (.istore_n 3, 1) := by decide +kernel
theorem dX2_markPossibleDays_21 : decode cX2_markPossibleDays 21 = .ok (.aload_n 0, 1) := by decide +kernel
theorem dX2_markPossibleDays_22 : decode cX2_markPossibleDays 22 = .ok (.getfield 48, 3) := by decide +kernel
theorem dX2_markPossibleDays_25 : decode cX2_markPossibleDays 25 = .ok (.iload_n 2, 1) := by decide +kernel
theorem dX2_markPossibleDays_26 : decode cX2_markPossibleDays 26 = .ok (.iload_n 3, 1) := by decide +kernel
theorem dX2_markPossibleDays_27 : decode cX2_markPossibleDays 27 = .ok (.ifCond .eq 7, 3) := by decide +kernel
theorem dX2_markPossibleDays_30 : decode cX2_markPossibleDays 30 = .ok (.iconst 1, 1) := by decide +kernel
theorem dX2_markPossibleDays_31 : decode cX2_markPossibleDays 31 = .ok (.goto 4, 3) := by decide +kernel
theorem dX2_markPossibleDays_34 : decode cX2_markPossibleDays 34 = .ok (.iconst 0, 1) := by decide +kernel
theorem dX2_markPossibleDays_35 : decode cX2_markPossibleDays 35 = .ok (.invokevirtual 54, 3) := by decide +kernel
theorem dX2_markPossibleDays_38 : decode cX2_markPossibleDays 38 = .ok (.iload_n 3, 1) := by decide +kernel
theorem dX2_markPossibleDays_39 : decode cX2_markPossibleDays 39 = .ok (.ifCond .eq 6, 3) := by decide +kernel
theorem dX2_markPossibleDays_42 : decode cX2_markPossibleDays 42 = .ok (.iinc 1 1, 3) := by decide +kernel
theorem dX2_markPossibleDays_45 : decode cX2_markPossibleDays 45 = .ok (.iinc 2 1, 3) := by decide +kernel
theorem dX2_markPossibleDays_48 : decode cX2_markPossibleDays 48 = .ok (.goto (-44), 3) := by decide +kernel
theorem dX2_markPossibleDays_51 : decode cX2_markPossibleDays 51 = .ok (.iload_n 1, 1) := by decide +kernel
theorem dX2_markPossibleDays_52 : decode cX2_markPossibleDays 52 = .ok (.ireturn, 1) := by decide +kernel
theorem dX2_mostLeftBy_0 : decode cX2_mostLeftBy 0 = .ok (.aload_n 0, 1) := by decide +kernel
theorem dX2_mostLeftBy_1 : decode cX2_mostLeftBy 1 = .ok (.getfield 51, 3) := by decide +kernel
theorem dX2_mostLeftBy_4 : decode cX2_mostLeftBy 4 = .ok (.invokevirtual 267, 3) := by decide +kernel
theorem dX2_mostLeftBy_7 : decode cX2_mostLeftBy 7 = .ok (.iconst 0, 1) := by decide +kernel
theorem dX2_mostLeftBy_8 : decode cX2_mostLeftBy 8 = .ok (.istore_n 2, 1) := by decide +kernel
theorem dX2_mostLeftBy_9 : decode cX2_mostLeftBy 9 = .ok (.iconst 0, 1) := by decide +kernel
theorem dX2_mostLeftBy_10 : decode cX2_mostLeftBy 10 = .ok (.istore_n 3, 1) := by decide +kernel
theorem dX2_mostLeftBy_11 : decode cX2_mostLeftBy 11 = .ok (.iload_n 3, 1) := by decide +kernel
theorem dX2_mostLeftBy_12 : decode cX2_mostLeftBy 12 = .ok (.aload_n 0, 1) := by decide +kernel
theorem dX2_mostLeftBy_13 : decode cX2_mostLeftBy 13 = .ok (.getfield 34, 3) := by decide +kernel
theorem dX2_mostLeftBy_16 : decode cX2_mostLeftBy 16 = .ok (.getfield 112, 3) := by decide +kernel
theorem dX2_mostLeftBy_19 : decode cX2_mostLeftBy 19 = .ok (.if_icmp .gt 53, 3) := by decide +kernel
theorem dX2_mostLeftBy_22 : decode cX2_mostLeftBy 22 = .ok (.aload_n 0, 1) := by decide +kernel
theorem dX2_mostLeftBy_23 : decode cX2_mostLeftBy 23 = .ok (.getfield 48, 3) := by decide +kernel
theorem dX2_mostLeftBy_26 : decode cX2_mostLeftBy 26 = .ok (.iload_n 3, 1) := by decide +kernel
theorem dX2_mostLeftBy_27 : decode cX2_mostLeftBy 27 = .ok (.invokevirtual 58, 3) := by decide +kernel
theorem dX2_mostLeftBy_30 : decode cX2_mostLeftBy 30 = .ok (.iconst 1, 1) := by decide +kernel
theorem dX2_mostLeftBy_31 : decode cX2_mostLeftBy 31 = .ok (.if_icmp .ne 35, 3) := by decide +kernel
theorem dX2_mostLeftBy_34 : decode cX2_mostLeftBy 34 = .ok (.aload_n 0, 1) := by decide +kernel
theorem dX2_mostLeftBy_35 : decode cX2_mostLeftBy 35 = .ok (.iload_n 1, 1) := by decide +kernel
theorem dX2_mostLeftBy_36 : decode cX2_mostLeftBy 36 = .ok (.iload_n 3, 1) := by decide +kernel
theorem dX2_mostLeftBy_37 : decode cX2_mostLeftBy 37 = .ok (.invokevirtual 129, 3) := by decide +kernel
theorem dX2_mostLeftBy_40 : decode cX2_mostLeftBy 40 = .ok (.istore 4, 2) := by decide +kernel
theorem dX2_mostLeftBy_42 : decode cX2_mostLeftBy 42 = .ok (.aload_n 0, 1) := by decide +kernel
theorem dX2_mostLeftBy_43 : decode cX2_mostLeftBy 43 = .ok (.getfield 51, 3) := by decide +kernel
theorem dX2_mostLeftBy_46 : decode cX2_mostLeftBy 46 = .ok (.iload 4, 2) := by decide +kernel
theorem dX2_mostLeftBy_48 : decode cX2_mostLeftBy 48 = .ok (.iconst 1, 1) := by decide +kernel
theorem dX2_mostLeftBy_49 : decode cX2_mostLeftBy 49 = .ok (.invokevirtual 106, 3) := by decide +kernel
theorem dX2_mostLeftBy_52 : decode cX2_mostLeftBy 52 = .ok (.iload_n 2, 1) := by decide +kernel
theorem dX2_mostLeftBy_53 : decode cX2_mostLeftBy 53 = .ok (.aload_n 0, 1) := by decide +kernel
theorem dX2_mostLeftBy_54 : decode cX2_mostLeftBy 54 = .ok (.getfield 51, 3) := by decide +kernel
theorem dX2_mostLeftBy_57 : decode cX2_mostLeftBy 57 = .ok (.iload 4, 2) := by decide +kernel
theorem dX2_mostLeftBy_59 : decode cX2_mostLeftBy 59 = .ok (.invokevirtual 58, 3) := by decide +kernel
theorem dX2_mostLeftBy_62 : decode cX2_mostLeftBy 62 = .ok (.invokestatic 270, 3) := by decide +kernel
theorem dX2_mostLeftBy_65 : decode cX2_mostLeftBy 65 = .ok (.istore_n 2, 1) := by decide +kernel
theorem dX2_mostLeftBy_66 : decode cX2_mostLeftBy 66 = .ok (.iinc 3 1, 3) := by decide +kernel
theorem dX2_mostLeftBy_69 : decode cX2_mostLeftBy 69 = .ok (.goto (-58), 3) := by decide +kernel
theorem dX2_mostLeftBy_72 : decode cX2_mostLeftBy 72 = .ok (.iload_n 2, 1) := by decide +kernel
theorem dX2_mostLeftBy_73 : decode cX2_mostLeftBy 73 = .ok (.ireturn, 1) := by decide +kernel
theorem dX2_nextSeed_0 : decode cX2_nextSeed 0 = .ok (.ldc2_w 273, 3) := by decide +kernel
theorem dX2_nextSeed_3 : decode cX2_nextSeed 3 = .ok (.iload_n 0, 1) := by decide +kernel
theorem dX2_nextSeed_4 : decode cX2_nextSeed 4 = .ok (.i2l, 1) := by decide +kernel
theorem dX2_nextSeed_5 : decode cX2_nextSeed 5 = .ok (.lmul, 1) := by decide +kernel
theorem dX2_nextSeed_6 : decode cX2_nextSeed 6 = .ok (.ldc2_w 275, 3) := by decide +kernel
theorem dX2_nextSeed_9 : decode cX2_nextSeed 9 = .ok (.ladd, 1) := by decide +kernel
theorem dX2_nextSeed_10 : decode cX2_nextSeed 10 = .ok (.ldc2_w 277, 3) := by decide +kernel
theorem dX2_nextSeed_13 : decode cX2_nextSeed 13 = .ok (.lrem, 1) := by decide +kernel
theorem dX2_nextSeed_14 : decode cX2_nextSeed 14 = .ok (.l2i, 1) := by decide +kernel
theorem dX2_nextSeed_15 : decode cX2_nextSeed 15 = .ok (.ireturn, 1) := by decide +kernel
theorem dX2_drawnHouse_0 : decode cX2_drawnHouse 0 = .ok (.aload_n 0, 1) := by decide +kernel
theorem dX2_drawnHouse_1 : decode cX2_drawnHouse 1 = .ok (.getfield 22, 3) := by decide +kernel
theorem dX2_drawnHouse_4 : decode cX2_drawnHouse 4 = .ok (.iconst 1, 1) := by decide +kernel
theorem dX2_drawnHouse_5 : decode cX2_drawnHouse 5 = .ok (.if_icmp .ge 7, 3) := by decide +kernel
theorem dX2_drawnHouse_8 : decode cX2_drawnHouse 8 = .ok (.iconst 0, 1) := by decide +kernel
theorem dX2_drawnHouse_9 : decode cX2_drawnHouse 9 = .ok (.goto 13, 3) := by decide +kernel
theorem dX2_drawnHouse_12 : decode cX2_drawnHouse 12 = .ok (.iload_n 1, 1) := by decide +kernel
theorem dX2_drawnHouse_13 : decode cX2_drawnHouse 13 = .ok (.ldc_w 279, 3) := by decide +kernel
theorem dX2_drawnHouse_16 : decode cX2_drawnHouse 16 = .ok (.idiv, 1) := by decide +kernel
theorem dX2_drawnHouse_17 : decode cX2_drawnHouse 17 = .ok (.aload_n 0, 1) := by decide +kernel
theorem dX2_drawnHouse_18 : decode cX2_drawnHouse 18 = .ok (.getfield 22, 3) := by decide +kernel
theorem dX2_drawnHouse_21 : decode cX2_drawnHouse 21 = .ok (.irem, 1) := by decide +kernel
theorem dX2_drawnHouse_22 : decode cX2_drawnHouse 22 = .ok (.ireturn, 1) := by decide +kernel
theorem dJ6_bitCount_0f7a4_0 : decode cJ6_bitCount_0f7a4 0 = .ok (.iload_n 0, 1) := by decide +kernel
theorem dJ6_bitCount_0f7a4_1 : decode cJ6_bitCount_0f7a4 1 = .ok (.iload_n 0, 1) := by decide +kernel
theorem dJ6_bitCount_0f7a4_2 : decode cJ6_bitCount_0f7a4 2 = .ok (.iconst 1, 1) := by decide +kernel
theorem dJ6_bitCount_0f7a4_3 : decode cJ6_bitCount_0f7a4 3 = .ok (.iushr, 1) := by decide +kernel
theorem dJ6_bitCount_0f7a4_4 : decode cJ6_bitCount_0f7a4 4 = .ok (.ldc_w 265, 3) := by decide +kernel
theorem dJ6_bitCount_0f7a4_7 : decode cJ6_bitCount_0f7a4 7 = .ok (.iand, 1) := by decide +kernel
theorem dJ6_bitCount_0f7a4_8 : decode cJ6_bitCount_0f7a4 8 = .ok (.isub, 1) := by decide +kernel
theorem dJ6_bitCount_0f7a4_9 : decode cJ6_bitCount_0f7a4 9 = .ok (.istore_n 0, 1) := by decide +kernel
theorem dJ6_bitCount_0f7a4_10 : decode cJ6_bitCount_0f7a4 10 = .ok (.iload_n 0, 1) := by decide +kernel
theorem dJ6_bitCount_0f7a4_11 : decode cJ6_bitCount_0f7a4 11 = .ok (.ldc_w 266, 3) := by decide +kernel
theorem dJ6_bitCount_0f7a4_14 : decode cJ6_bitCount_0f7a4 14 = .ok (.iand, 1) := by decide +kernel
theorem dJ6_bitCount_0f7a4_15 : decode cJ6_bitCount_0f7a4 15 = .ok (.iload_n 0, 1) := by decide +kernel
theorem dJ6_bitCount_0f7a4_16 : decode cJ6_bitCount_0f7a4 16 = .ok (.iconst 2, 1) := by decide +kernel
theorem dJ6_bitCount_0f7a4_17 : decode cJ6_bitCount_0f7a4 17 = .ok (.iushr, 1) := by decide +kernel
theorem dJ6_bitCount_0f7a4_18 : decode cJ6_bitCount_0f7a4 18 = .ok (.ldc_w 266, 3) := by decide +kernel
theorem dJ6_bitCount_0f7a4_21 : decode cJ6_bitCount_0f7a4 21 = .ok (.iand, 1) := by decide +kernel
theorem dJ6_bitCount_0f7a4_22 : decode cJ6_bitCount_0f7a4 22 = .ok (.iadd, 1) := by decide +kernel
theorem dJ6_bitCount_0f7a4_23 : decode cJ6_bitCount_0f7a4 23 = .ok (.istore_n 0, 1) := by decide +kernel
theorem dJ6_bitCount_0f7a4_24 : decode cJ6_bitCount_0f7a4 24 = .ok (.iload_n 0, 1) := by decide +kernel
theorem dJ6_bitCount_0f7a4_25 : decode cJ6_bitCount_0f7a4 25 = .ok (.iload_n 0, 1) := by decide +kernel
theorem dJ6_bitCount_0f7a4_26 : decode cJ6_bitCount_0f7a4 26 = .ok (.iconst 4, 1) := by decide +kernel
theorem dJ6_bitCount_0f7a4_27 : decode cJ6_bitCount_0f7a4 27 = .ok (.iushr, 1) := by decide +kernel
theorem dJ6_bitCount_0f7a4_28 : decode cJ6_bitCount_0f7a4 28 = .ok (.iadd, 1) := by decide +kernel
theorem dJ6_bitCount_0f7a4_29 : decode cJ6_bitCount_0f7a4 29 = .ok (.ldc_w 267, 3) := by decide +kernel
theorem dJ6_bitCount_0f7a4_32 : decode cJ6_bitCount_0f7a4 32 = .ok (.iand, 1) := by decide +kernel
theorem dJ6_bitCount_0f7a4_33 : decode cJ6_bitCount_0f7a4 33 = .ok (.istore_n 0, 1) := by decide +kernel
theorem dJ6_bitCount_0f7a4_34 : decode cJ6_bitCount_0f7a4 34 = .ok (.iload_n 0, 1) := by decide +kernel
theorem dJ6_bitCount_0f7a4_35 : decode cJ6_bitCount_0f7a4 35 = .ok (.iload_n 0, 1) := by decide +kernel
theorem dJ6_bitCount_0f7a4_36 : decode cJ6_bitCount_0f7a4 36 = .ok (.bipush 8, 2) := by decide +kernel
theorem dJ6_bitCount_0f7a4_38 : decode cJ6_bitCount_0f7a4 38 = .ok (.iushr, 1) := by decide +kernel
theorem dJ6_bitCount_0f7a4_39 : decode cJ6_bitCount_0f7a4 39 = .ok (.iadd, 1) := by decide +kernel
theorem dJ6_bitCount_0f7a4_40 : decode cJ6_bitCount_0f7a4 40 = .ok (.istore_n 0, 1) := by decide +kernel
theorem dJ6_bitCount_0f7a4_41 : decode cJ6_bitCount_0f7a4 41 = .ok (.iload_n 0, 1) := by decide +kernel
theorem dJ6_bitCount_0f7a4_42 : decode cJ6_bitCount_0f7a4 42 = .ok (.iload_n 0, 1) := by decide +kernel
theorem dJ6_bitCount_0f7a4_43 : decode cJ6_bitCount_0f7a4 43 = .ok (.bipush 16, 2) := by decide +kernel
theorem dJ6_bitCount_0f7a4_45 : decode cJ6_bitCount_0f7a4 45 = .ok (.iushr, 1) := by decide +kernel
theorem dJ6_bitCount_0f7a4_46 : decode cJ6_bitCount_0f7a4 46 = .ok (.iadd, 1) := by decide +kernel
theorem dJ6_bitCount_0f7a4_47 : decode cJ6_bitCount_0f7a4 47 = .ok (.istore_n 0, 1) := by decide +kernel
theorem dJ6_bitCount_0f7a4_48 : decode cJ6_bitCount_0f7a4 48 = .ok (.iload_n 0, 1) := by decide +kernel
theorem dJ6_bitCount_0f7a4_49 : decode cJ6_bitCount_0f7a4 49 = .ok (.bipush 63, 2) := by decide +kernel
theorem dJ6_bitCount_0f7a4_51 : decode cJ6_bitCount_0f7a4 51 = .ok (.iand, 1) := by decide +kernel
theorem dJ6_bitCount_0f7a4_52 : decode cJ6_bitCount_0f7a4 52 = .ok (.ireturn, 1) := by decide +kernel
theorem dJ9_abs_0f7a4_0 : decode cJ9_abs_0f7a4 0 = .ok (.iload_n 0, 1) := by decide +kernel
theorem dJ9_abs_0f7a4_1 : decode cJ9_abs_0f7a4 1 = .ok (.ifCond .ge 8, 3) := by decide +kernel
theorem dJ9_abs_0f7a4_4 : decode cJ9_abs_0f7a4 4 = .ok (.iload_n 0, 1) := by decide +kernel
theorem dJ9_abs_0f7a4_5 : decode cJ9_abs_0f7a4 5 = .ok (.ineg, 1) := by decide +kernel
theorem dJ9_abs_0f7a4_6 : decode cJ9_abs_0f7a4 6 = .ok (.goto 4, 3) := by decide +kernel
theorem dJ9_abs_0f7a4_9 : decode cJ9_abs_0f7a4 9 = .ok (.iload_n 0, 1) := by decide +kernel
theorem dJ9_abs_0f7a4_10 : decode cJ9_abs_0f7a4 10 = .ok (.ireturn, 1) := by decide +kernel
theorem dJ9_max_7cf53_0 : decode cJ9_max_7cf53 0 = .ok (.iload_n 0, 1) := by decide +kernel
theorem dJ9_max_7cf53_1 : decode cJ9_max_7cf53 1 = .ok (.iload_n 1, 1) := by decide +kernel
theorem dJ9_max_7cf53_2 : decode cJ9_max_7cf53 2 = .ok (.if_icmp .lt 7, 3) := by decide +kernel
theorem dJ9_max_7cf53_5 : decode cJ9_max_7cf53 5 = .ok (.iload_n 0, 1) := by decide +kernel
theorem dJ9_max_7cf53_6 : decode cJ9_max_7cf53 6 = .ok (.goto 4, 3) := by decide +kernel
theorem dJ9_max_7cf53_9 : decode cJ9_max_7cf53 9 = .ok (.iload_n 1, 1) := by decide +kernel
theorem dJ9_max_7cf53_10 : decode cJ9_max_7cf53 10 = .ok (.ireturn, 1) := by decide +kernel
theorem dJ0_length_8abf5_0 : decode cJ0_length_8abf5 0 = .ok (.aload_n 0, 1) := by decide +kernel
theorem dJ0_length_8abf5_1 : decode cJ0_length_8abf5 1 = .ok (.getfield 9, 3) := by decide +kernel
theorem dJ0_length_8abf5_4 : decode cJ0_length_8abf5 4 = .ok (.arraylength, 1) := by decide +kernel
theorem dJ0_length_8abf5_5 : decode cJ0_length_8abf5 5 = .ok (.aload_n 0, 1) := by decide +kernel
theorem dJ0_length_8abf5_6 : decode cJ0_length_8abf5 6 = .ok (.invokevirtual 335, 3) := by decide +kernel
theorem dJ0_length_8abf5_9 : decode cJ0_length_8abf5 9 = .ok (.ishr, 1) := by decide +kernel
theorem dJ0_length_8abf5_10 : decode cJ0_length_8abf5 10 = .ok (.ireturn, 1) := by decide +kernel
theorem dJ0_charAt_5068e_0 : decode cJ0_charAt_5068e 0 = .ok (.aload_n 0, 1) := by decide +kernel
theorem dJ0_charAt_5068e_1 : decode cJ0_charAt_5068e 1 = .ok (.invokevirtual 492, 3) := by decide +kernel
theorem dJ0_charAt_5068e_4 : decode cJ0_charAt_5068e 4 = .ok (.ifCond .eq 12, 3) := by decide +kernel
theorem dJ0_charAt_5068e_7 : decode cJ0_charAt_5068e 7 = .ok (.aload_n 0, 1) := by decide +kernel
theorem dJ0_charAt_5068e_8 : decode cJ0_charAt_5068e 8 = .ok (.getfield 9, 3) := by decide +kernel
theorem dJ0_charAt_5068e_11 : decode cJ0_charAt_5068e 11 = .ok (.iload_n 1, 1) := by decide +kernel
theorem dJ0_charAt_5068e_12 : decode cJ0_charAt_5068e 12 = .ok (.invokestatic 495, 3) := by decide +kernel
theorem dJ0_charAt_5068e_15 : decode cJ0_charAt_5068e 15 = .ok (.ireturn, 1) := by decide +kernel
theorem dJ0_charAt_5068e_16 : decode cJ0_charAt_5068e 16 = .ok (.aload_n 0, 1) := by decide +kernel
theorem dJ0_charAt_5068e_17 : decode cJ0_charAt_5068e 17 = .ok (.getfield 9, 3) := by decide +kernel
theorem dJ0_charAt_5068e_20 : decode cJ0_charAt_5068e 20 = .ok (.iload_n 1, 1) := by decide +kernel
theorem dJ0_charAt_5068e_21 : decode cJ0_charAt_5068e 21 = .ok (.invokestatic 498, 3) := by decide +kernel
theorem dJ0_charAt_5068e_24 : decode cJ0_charAt_5068e 24 = .ok (.ireturn, 1) := by decide +kernel
theorem dJ0_coder_7d493_0 : decode cJ0_coder_7d493 0 = .ok (.getstatic 38, 3) := by decide +kernel
theorem dJ0_coder_7d493_3 : decode cJ0_coder_7d493 3 = .ok (.ifCond .eq 10, 3) := by decide +kernel
theorem dJ0_coder_7d493_6 : decode cJ0_coder_7d493 6 = .ok (.aload_n 0, 1) := by decide +kernel
theorem dJ0_coder_7d493_7 : decode cJ0_coder_7d493 7 = .ok (.getfield 15, 3) := by decide +kernel
theorem dJ0_coder_7d493_10 : decode cJ0_coder_7d493 10 = .ok (.goto 4, 3) := by decide +kernel
theorem dJ0_coder_7d493_13 : decode cJ0_coder_7d493 13 = .ok (.iconst 1, 1) := by decide +kernel
theorem dJ0_coder_7d493_14 : decode cJ0_coder_7d493 14 = .ok (.ireturn, 1) := by decide +kernel
theorem dJ0_isLatin1_aae02_0 : decode cJ0_isLatin1_aae02 0 = .ok (.getstatic 38, 3) := by decide +kernel
theorem dJ0_isLatin1_aae02_3 : decode cJ0_isLatin1_aae02 3 = .ok (.ifCond .eq 14, 3) := by decide +kernel
theorem dJ0_isLatin1_aae02_6 : decode cJ0_isLatin1_aae02 6 = .ok (.aload_n 0, 1) := by decide +kernel
theorem dJ0_isLatin1_aae02_7 : decode cJ0_isLatin1_aae02 7 = .ok (.getfield 15, 3) := by decide +kernel
theorem dJ0_isLatin1_aae02_10 : decode cJ0_isLatin1_aae02 10 = .ok (.ifCond .ne 7, 3) := by decide +kernel
theorem dJ0_isLatin1_aae02_13 : decode cJ0_isLatin1_aae02 13 = .ok (.iconst 1, 1) := by decide +kernel
theorem dJ0_isLatin1_aae02_14 : decode cJ0_isLatin1_aae02 14 = .ok (.goto 4, 3) := by decide +kernel
theorem dJ0_isLatin1_aae02_17 : decode cJ0_isLatin1_aae02 17 = .ok (.iconst 0, 1) := by decide +kernel
theorem dJ0_isLatin1_aae02_18 : decode cJ0_isLatin1_aae02 18 = .ok (.ireturn, 1) := by decide +kernel
theorem dJ0_checkIndex_df160_0 : decode cJ0_checkIndex_df160 0 = .ok (.iload_n 0, 1) := by decide +kernel
theorem dJ0_checkIndex_df160_1 : decode cJ0_checkIndex_df160 1 = .ok (.iload_n 1, 1) := by decide +kernel
theorem dJ0_checkIndex_df160_2 : decode cJ0_checkIndex_df160 2 = .ok (.getstatic 1053, 3) := by decide +kernel
theorem dJ0_checkIndex_df160_5 : decode cJ0_checkIndex_df160 5 = .ok (.invokestatic 1059, 3) := by decide +kernel
theorem dJ0_checkIndex_df160_8 : decode cJ0_checkIndex_df160 8 = .ok (.pop, 1) := by decide +kernel
theorem dJ0_checkIndex_df160_9 : decode cJ0_checkIndex_df160 9 = .ok (.return_, 1) := by decide +kernel
theorem dJ1_charAt_3b067_0 : decode cJ1_charAt_3b067 0 = .ok (.iload_n 1, 1) := by decide +kernel
theorem dJ1_charAt_3b067_1 : decode cJ1_charAt_3b067 1 = .ok (.aload_n 0, 1) := by decide +kernel
theorem dJ1_charAt_3b067_2 : decode cJ1_charAt_3b067 2 = .ok (.arraylength, 1) := by decide +kernel
theorem dJ1_charAt_3b067_3 : decode cJ1_charAt_3b067 3 = .ok (.invokestatic 9, 3) := by decide +kernel
theorem dJ1_charAt_3b067_6 : decode cJ1_charAt_3b067 6 = .ok (.aload_n 0, 1) := by decide +kernel
theorem dJ1_charAt_3b067_7 : decode cJ1_charAt_3b067 7 = .ok (.iload_n 1, 1) := by decide +kernel
theorem dJ1_charAt_3b067_8 : decode cJ1_charAt_3b067 8 = .ok (.baload, 1) := by decide +kernel
theorem dJ1_charAt_3b067_9 : decode cJ1_charAt_3b067 9 = .ok (.sipush 255, 3) := by decide +kernel
theorem dJ1_charAt_3b067_12 : decode cJ1_charAt_3b067 12 = .ok (.iand, 1) := by decide +kernel
theorem dJ1_charAt_3b067_13 : decode cJ1_charAt_3b067 13 = .ok (.i2c, 1) := by decide +kernel
theorem dJ1_charAt_3b067_14 : decode cJ1_charAt_3b067 14 = .ok (.ireturn, 1) := by decide +kernel
theorem dJ2_getChar_3b067_0 : decode cJ2_getChar_3b067 0 = .ok (.getstatic 44, 3) := by decide +kernel
theorem dJ2_getChar_3b067_3 : decode cJ2_getChar_3b067 3 = .ok (.ifCond .ne 25, 3) := by decide +kernel
theorem dJ2_getChar_3b067_6 : decode cJ2_getChar_3b067 6 = .ok (.iload_n 1, 1) := by decide +kernel
theorem dJ2_getChar_3b067_7 : decode cJ2_getChar_3b067 7 = .ok (.ifCond .lt 11, 3) := by decide +kernel
theorem dJ2_getChar_3b067_10 : decode cJ2_getChar_3b067 10 = .ok (.iload_n 1, 1) := by decide +kernel
theorem dJ2_getChar_3b067_11 : decode cJ2_getChar_3b067 11 = .ok (.aload_n 0, 1) := by decide +kernel
theorem dJ2_getChar_3b067_12 : decode cJ2_getChar_3b067 12 = .ok (.invokestatic 48, 3) := by decide +kernel
theorem dJ2_getChar_3b067_15 : decode cJ2_getChar_3b067 15 = .ok (.if_icmp .lt 13, 3) := by decide +kernel
theorem dJ2_getChar_3b067_18 : decode cJ2_getChar_3b067 18 = .ok (.new 52, 3) := by decide +kernel
theorem dJ2_getChar_3b067_21 : decode cJ2_getChar_3b067 21 = .ok (.dup, 1) := by decide +kernel
theorem dJ2_getChar_3b067_22 : decode cJ2_getChar_3b067 22 = .ok (.ldc 54, 2) := by decide +kernel
theorem dJ2_getChar_3b067_24 : decode cJ2_getChar_3b067 24 = .ok (.invokespecial 56, 3) := by decide +kernel
theorem dJ2_getChar_3b067_27 : decode cJ2_getChar_3b067 27 = .ok (.athrow, 1) := by decide +kernel
theorem dJ2_getChar_3b067_28 : decode cJ2_getChar_3b067 28 = .ok (.iload_n 1, 1) := by decide +kernel
theorem dJ2_getChar_3b067_29 : decode cJ2_getChar_3b067 29 = .ok (.iconst 1, 1) := by decide +kernel
theorem dJ2_getChar_3b067_30 : decode cJ2_getChar_3b067 30 = .ok (.ishl, 1) := by decide +kernel
theorem dJ2_getChar_3b067_31 : decode cJ2_getChar_3b067 31 = .ok (.istore_n 1, 1) := by decide +kernel
theorem dJ2_getChar_3b067_32 : decode cJ2_getChar_3b067 32 = .ok (.aload_n 0, 1) := by decide +kernel
theorem dJ2_getChar_3b067_33 : decode cJ2_getChar_3b067 33 = .ok (.iload_n 1, 1) := by decide +kernel
theorem dJ2_getChar_3b067_34 : decode cJ2_getChar_3b067 34 = .ok (.iinc 1 1, 3) := by decide +kernel
theorem dJ2_getChar_3b067_37 : decode cJ2_getChar_3b067 37 = .ok (.baload, 1) := by decide +kernel
theorem dJ2_getChar_3b067_38 : decode cJ2_getChar_3b067 38 = .ok (.sipush 255, 3) := by decide +kernel
theorem dJ2_getChar_3b067_41 : decode cJ2_getChar_3b067 41 = .ok (.iand, 1) := by decide +kernel
theorem dJ2_getChar_3b067_42 : decode cJ2_getChar_3b067 42 = .ok (.getstatic 59, 3) := by decide +kernel
theorem dJ2_getChar_3b067_45 : decode cJ2_getChar_3b067 45 = .ok (.ishl, 1) := by decide +kernel
theorem dJ2_getChar_3b067_46 : decode cJ2_getChar_3b067 46 = .ok (.aload_n 0, 1) := by decide +kernel
theorem dJ2_getChar_3b067_47 : decode cJ2_getChar_3b067 47 = .ok (.iload_n 1, 1) := by decide +kernel
theorem dJ2_getChar_3b067_48 : decode cJ2_getChar_3b067 48 = .ok (.baload, 1) := by decide +kernel
theorem dJ2_getChar_3b067_49 : decode cJ2_getChar_3b067 49 = .ok (.sipush 255, 3) := by decide +kernel
theorem dJ2_getChar_3b067_52 : decode cJ2_getChar_3b067 52 = .ok (.iand, 1) := by decide +kernel
theorem dJ2_getChar_3b067_53 : decode cJ2_getChar_3b067 53 = .ok (.getstatic 63, 3) := by decide +kernel
theorem dJ2_getChar_3b067_56 : decode cJ2_getChar_3b067 56 = .ok (.ishl, 1) := by decide +kernel
theorem dJ2_getChar_3b067_57 : decode cJ2_getChar_3b067 57 = .ok (.ior, 1) := by decide +kernel
theorem dJ2_getChar_3b067_58 : decode cJ2_getChar_3b067 58 = .ok (.i2c, 1) := by decide +kernel
theorem dJ2_getChar_3b067_59 : decode cJ2_getChar_3b067 59 = .ok (.ireturn, 1) := by decide +kernel
theorem dJ2_length_9d52b_0 : decode cJ2_length_9d52b 0 = .ok (.aload_n 0, 1) := by decide +kernel
theorem dJ2_length_9d52b_1 : decode cJ2_length_9d52b 1 = .ok (.arraylength, 1) := by decide +kernel
theorem dJ2_length_9d52b_2 : decode cJ2_length_9d52b 2 = .ok (.iconst 1, 1) := by decide +kernel
theorem dJ2_length_9d52b_3 : decode cJ2_length_9d52b 3 = .ok (.ishr, 1) := by decide +kernel
theorem dJ2_length_9d52b_4 : decode cJ2_length_9d52b 4 = .ok (.ireturn, 1) := by decide +kernel
theorem dJ2_charAt_3b067_0 : decode cJ2_charAt_3b067 0 = .ok (.iload_n 1, 1) := by decide +kernel
theorem dJ2_charAt_3b067_1 : decode cJ2_charAt_3b067 1 = .ok (.aload_n 0, 1) := by decide +kernel
theorem dJ2_charAt_3b067_2 : decode cJ2_charAt_3b067 2 = .ok (.invokestatic 67, 3) := by decide +kernel
theorem dJ2_charAt_3b067_5 : decode cJ2_charAt_3b067 5 = .ok (.aload_n 0, 1) := by decide +kernel
theorem dJ2_charAt_3b067_6 : decode cJ2_charAt_3b067 6 = .ok (.iload_n 1, 1) := by decide +kernel
theorem dJ2_charAt_3b067_7 : decode cJ2_charAt_3b067 7 = .ok (.invokestatic 71, 3) := by decide +kernel
theorem dJ2_charAt_3b067_10 : decode cJ2_charAt_3b067 10 = .ok (.ireturn, 1) := by decide +kernel
theorem dJ2_checkIndex_2214a_0 : decode cJ2_checkIndex_2214a 0 = .ok (.iload_n 0, 1) := by decide +kernel
theorem dJ2_checkIndex_2214a_1 : decode cJ2_checkIndex_2214a 1 = .ok (.aload_n 1, 1) := by decide +kernel
theorem dJ2_checkIndex_2214a_2 : decode cJ2_checkIndex_2214a 2 = .ok (.invokestatic 48, 3) := by decide +kernel
theorem dJ2_checkIndex_2214a_5 : decode cJ2_checkIndex_2214a 5 = .ok (.invokestatic 414, 3) := by decide +kernel
theorem dJ2_checkIndex_2214a_8 : decode cJ2_checkIndex_2214a 8 = .ok (.return_, 1) := by decide +kernel
theorem dJ3_checkIndex_8e157_0 : decode cJ3_checkIndex_8e157 0 = .ok (.iload_n 0, 1) := by decide +kernel
theorem dJ3_checkIndex_8e157_1 : decode cJ3_checkIndex_8e157 1 = .ok (.ifCond .lt 8, 3) := by decide +kernel
theorem dJ3_checkIndex_8e157_4 : decode cJ3_checkIndex_8e157 4 = .ok (.iload_n 0, 1) := by decide +kernel
theorem dJ3_checkIndex_8e157_5 : decode cJ3_checkIndex_8e157 5 = .ok (.iload_n 1, 1) := by decide +kernel
theorem dJ3_checkIndex_8e157_6 : decode cJ3_checkIndex_8e157 6 = .ok (.if_icmp .lt 10, 3) := by decide +kernel
theorem dJ3_checkIndex_8e157_9 : decode cJ3_checkIndex_8e157 9 = .ok (.aload_n 2, 1) := by decide +kernel
theorem dJ3_checkIndex_8e157_10 : decode cJ3_checkIndex_8e157 10 = .ok (.iload_n 0, 1) := by decide +kernel
theorem dJ3_checkIndex_8e157_11 : decode cJ3_checkIndex_8e157 11 = .ok (.iload_n 1, 1) := by decide +kernel
theorem dJ3_checkIndex_8e157_12 : decode cJ3_checkIndex_8e157 12 = .ok (.invokestatic 95, 3) := by decide +kernel
theorem dJ3_checkIndex_8e157_15 : decode cJ3_checkIndex_8e157 15 = .ok (.athrow, 1) := by decide +kernel
theorem dJ3_checkIndex_8e157_16 : decode cJ3_checkIndex_8e157 16 = .ok (.iload_n 0, 1) := by decide +kernel
theorem dJ3_checkIndex_8e157_17 : decode cJ3_checkIndex_8e157 17 = .ok (.ireturn, 1) := by decide +kernel
end
section
theorem dX3_init_0 : decode cX3_init 0 = .ok (.aload_n 0, 1) := by decide +kernel
theorem dX3_init_1 : decode cX3_init 1 = .ok (.invokespecial 1, 3) := by decide +kernel
theorem dX3_init_4 : decode cX3_init 4 = .ok (.aload_n 0, 1) := by decide +kernel
theorem dX3_init_5 : decode cX3_init 5 = .ok (.bipush 6, 2) := by decide +kernel
theorem dX3_init_7 : decode cX3_init 7 = .ok (.newarray .int, 2) := by decide +kernel
theorem dX3_init_9 : decode cX3_init 9 = .ok (.putfield 7, 3) := by decide +kernel
theorem dX3_init_12 : decode cX3_init 12 = .ok (.aload_n 0, 1) := by decide +kernel
theorem dX3_init_13 : decode cX3_init 13 = .ok (.bipush 6, 2) := by decide +kernel
theorem dX3_init_15 : decode cX3_init 15 = .ok (.newarray .int, 2) := by decide +kernel
theorem dX3_init_17 : decode cX3_init 17 = .ok (.putfield 13, 3) := by decide +kernel
theorem dX3_init_20 : decode cX3_init 20 = .ok (.aload_n 0, 1) := by decide +kernel
theorem dX3_init_21 : decode cX3_init 21 = .ok (.bipush 6, 2) := by decide +kernel
theorem dX3_init_23 : decode cX3_init 23 = .ok (.newarray .int, 2) := by decide +kernel
theorem dX3_init_25 : decode cX3_init 25 = .ok (.putfield 16, 3) := by decide +kernel
theorem dX3_init_28 : decode cX3_init 28 = .ok (.aload_n 0, 1) := by decide +kernel
theorem dX3_init_29 : decode cX3_init 29 = .ok (.sipush 186, 3) := by decide +kernel
theorem dX3_init_32 : decode cX3_init 32 = .ok (.newarray .int, 2) := by decide +kernel
theorem dX3_init_34 : decode cX3_init 34 = .ok (.putfield 19, 3) := by decide +kernel
theorem dX3_init_37 : decode cX3_init 37 = .ok (.aload_n 0, 1) := by decide +kernel
theorem dX3_init_38 : decode cX3_init 38 = .ok (.bipush 6, 2) := by decide +kernel
theorem dX3_init_40 : decode cX3_init 40 = .ok (.newarray .int, 2) := by decide +kernel
theorem dX3_init_42 : decode cX3_init 42 = .ok (.putfield 22, 3) := by decide +kernel
theorem dX3_init_45 : decode cX3_init 45 = .ok (.aload_n 0, 1) := by decide +kernel
theorem dX3_init_46 : decode cX3_init 46 = .ok (.bipush 6, 2) := by decide +kernel
theorem dX3_init_48 : decode cX3_init 48 = .ok (.newarray .int, 2) := by decide +kernel
theorem dX3_init_50 : decode cX3_init 50 = .ok (.putfield 25, 3) := by decide +kernel
theorem dX3_init_53 : decode cX3_init 53 = .ok (.aload_n 0, 1) := by decide +kernel
theorem dX3_init_54 : decode cX3_init 54 = .ok (.bipush 6, 2) := by decide +kernel
theorem dX3_init_56 : decode cX3_init 56 = .ok (.newarray .int, 2) := by decide +kernel
theorem dX3_init_58 : decode cX3_init 58 = .ok (.putfield 28, 3) := by decide +kernel
theorem dX3_init_61 : decode cX3_init 61 = .ok (.aload_n 0, 1) := by decide +kernel
theorem dX3_init_62 : decode cX3_init 62 = .ok (.bipush 6, 2) := by decide +kernel
theorem dX3_init_64 : decode cX3_init 64 = .ok (.newarray .int, 2) := by decide +kernel
theorem dX3_init_66 : decode cX3_init 66 = .ok (.putfield 31, 3) := by decide +kernel
theorem dX3_init_69 : decode cX3_init 69 = .ok (.aload_n 0, 1) := by decide +kernel
theorem dX3_init_70 : decode cX3_init 70 = .ok (.bipush 19, 2) := by decide +kernel
theorem dX3_init_72 : decode cX3_init 72 = .ok (.newarray .byte, 2) := by decide +kernel
theorem dX3_init_74 : decode cX3_init 74 = .ok (.putfield 34, 3) := by decide +kernel
theorem dX3_init_77 : decode cX3_init 77 = .ok (.aload_n 0, 1) := by decide +kernel
theorem dX3_init_78 : decode cX3_init 78 = .ok (.bipush 6, 2) := by decide +kernel
theorem dX3_init_80 : decode cX3_init 80 = .ok (.newarray .int, 2) := by decide +kernel
theorem dX3_init_82 : decode cX3_init 82 = .ok (.putfield 38, 3) := by decide +kernel
theorem dX3_init_85 : decode cX3_init 85 = .ok (.aload_n 0, 1) := by decide +kernel
theorem dX3_init_86 : decode cX3_init 86 = .ok (.bipush 6, 2) := by decide +kernel
theorem dX3_init_88 : decode cX3_init 88 = .ok (.newarray .int, 2) := by decide +kernel
theorem dX3_init_90 : decode cX3_init 90 = .ok (.putfield 41, 3) := by decide +kernel
theorem dX3_init_93 : decode cX3_init 93 = .ok (.aload_n 0, 1) := by decide +kernel
theorem dX3_init_94 : decode cX3_init 94 = .ok (.bipush 6, 2) := by decide +kernel
theorem dX3_init_96 : decode cX3_init 96 = .ok (.newarray .int, 2) := by decide +kernel
theorem dX3_init_98 : decode cX3_init 98 = .ok (.putfield 44, 3) := by decide +kernel
theorem dX3_init_101 : decode cX3_init 101 = .ok (.aload_n 0, 1) := by decide +kernel
theorem dX3_init_102 : decode cX3_init 102 = .ok (.sipush 186, 3) := by decide +kernel
theorem dX3_init_105 : decode cX3_init 105 = .ok (.newarray .int, 2) := by decide +kernel
theorem dX3_init_107 : decode cX3_init 107 = .ok (.putfield 47, 3) := by decide +kernel
theorem dX3_init_110 : decode cX3_init 110 = .ok (.aload_n 0, 1) := by decide +kernel
theorem dX3_init_111 : decode cX3_init 111 = .ok (.bipush 6, 2) := by decide +kernel
theorem dX3_init_113 : decode cX3_init 113 = .ok (.newarray .int, 2) := by decide +kernel
theorem dX3_init_115 : decode cX3_init 115 = .ok (.putfield 50, 3) := by decide +kernel
theorem dX3_init_118 : decode cX3_init 118 = .ok (.aload_n 0, 1) := by decide +kernel
theorem dX3_init_119 : decode cX3_init 119 = .ok (.bipush 6, 2) := by decide +kernel
theorem dX3_init_121 : decode cX3_init 121 = .ok (.newarray .int, 2) := by decide +kernel
theorem dX3_init_123 : decode cX3_init 123 = .ok (.putfield 53, 3) := by decide +kernel
theorem dX3_init_126 : decode cX3_init 126 = .ok (.aload_n 0, 1) := by decide +kernel
theorem dX3_init_127 : decode cX3_init 127 = .ok (.bipush 6, 2) := by decide +kernel
theorem dX3_init_129 : decode cX3_init 129 = .ok (.newarray .int, 2) := by decide +kernel
theorem dX3_init_131 : decode cX3_init 131 = .ok (.putfield 56, 3) := by decide +kernel
theorem dX3_init_134 : decode cX3_init 134 = .ok (.aload_n 0, 1) := by decide +kernel
theorem dX3_init_135 : decode cX3_init 135 = .ok (.bipush 6, 2) := by decide +kernel
theorem dX3_init_137 : decode cX3_init 137 = .ok (.newarray .int, 2) := by decide +kernel
theorem dX3_init_139 : decode cX3_init 139 = .ok (.putfield 59, 3) := by decide +kernel
theorem dX3_init_142 : decode cX3_init 142 = .ok (.return_, 1) := by decide +kernel
theorem dX3_within_0 : decode cX3_within 0 = .ok (.iload_n 0, 1) := by decide +kernel
theorem dX3_within_1 : decode cX3_within 1 = .ok (.iload_n 1, 1) := by decide +kernel
theorem dX3_within_2 : decode cX3_within 2 = .ok (.if_icmp .lt 12, 3) := by decide +kernel
theorem dX3_within_5 : decode cX3_within 5 = .ok (.iload_n 0, 1) := by decide +kernel
theorem dX3_within_6 : decode cX3_within 6 = .ok (.iload_n 2, 1) := by decide +kernel
theorem dX3_within_7 : decode cX3_within 7 = .ok (.if_icmp .gt 7, 3) := by decide +kernel
theorem dX3_within_10 : decode cX3_within 10 = .ok (.iconst 1, 1) := by decide +kernel
theorem dX3_within_11 : decode cX3_within 11 = .ok (.goto 4, 3) := by decide +kernel
theorem dX3_within_14 : decode cX3_within 14 = .ok (.iconst 0, 1) := by decide +kernel
theorem dX3_within_15 : decode cX3_within 15 = .ok (.ireturn, 1) := by decide +kernel
theorem dX3_isIn_0 : decode cX3_isIn 0 = .ok (.iload_n 0, 1) := by decide +kernel
theorem dX3_isIn_1 : decode cX3_isIn 1 = .ok (.iload_n 1, 1) := by decide +kernel
theorem dX3_isIn_2 : decode cX3_isIn 2 = .ok (.ishr, 1) := by decide +kernel
theorem dX3_isIn_3 : decode cX3_isIn 3 = .ok (.iconst 1, 1) := by decide +kernel
theorem dX3_isIn_4 : decode cX3_isIn 4 = .ok (.iand, 1) := by decide +kernel
theorem dX3_isIn_5 : decode cX3_isIn 5 = .ok (.iconst 1, 1) := by decide +kernel
theorem dX3_isIn_6 : decode cX3_isIn 6 = .ok (.if_icmp .ne 7, 3) := by decide +kernel
theorem dX3_isIn_9 : decode cX3_isIn 9 = .ok (.iconst 1, 1) := by decide +kernel
theorem dX3_isIn_10 : decode cX3_isIn 10 = .ok (.goto 4, 3) := by decide +kernel
theorem dX3_isIn_13 : decode cX3_isIn 13 = .ok (.iconst 0, 1) := by decide +kernel
theorem dX3_isIn_14 : decode cX3_isIn 14 = .ok (.ireturn, 1) := by decide +kernel
theorem dX3_size_0 : decode cX3_size 0 = .ok (.iconst 0, 1) := by decide +kernel
theorem dX3_size_1 : decode cX3_size 1 = .ok (.istore_n 1, 1) := by decide +kernel
theorem dX3_size_2 : decode cX3_size 2 = .ok (.iconst 0, 1) := by decide +kernel
theorem dX3_size_3 : decode cX3_size 3 = .ok (.istore_n 2, 1) := by decide +kernel
theorem dX3_size_4 : decode cX3_size 4 = .ok (.iload_n 2, 1) := by decide +kernel
theorem dX3_size_5 : decode cX3_size 5 = .ok (.bipush 6, 2) := by decide +kernel
theorem dX3_size_7 : decode cX3_size 7 = .ok (.if_icmp .ge 17, 3) := by decide +kernel
theorem dX3_size_10 : decode cX3_size 10 = .ok (.iload_n 1, 1) := by decide +kernel
theorem dX3_size_11 : decode cX3_size 11 = .ok (.iload_n 0, 1) := by decide +kernel
theorem dX3_size_12 : decode cX3_size 12 = .ok (.iload_n 2, 1) := by decide +kernel
theorem dX3_size_13 : decode cX3_size 13 = .ok (.ishr, 1) := by decide +kernel
theorem dX3_size_14 : decode cX3_size 14 = .ok (.iconst 1, 1) := by decide +kernel
theorem dX3_size_15 : decode cX3_size 15 = .ok (.iand, 1) := by decide +kernel
theorem dX3_size_16 : decode cX3_size 16 = .ok (.iadd, 1) := by decide +kernel
theorem dX3_size_17 : decode cX3_size 17 = .ok (.istore_n 1, 1) := by decide +kernel
theorem dX3_size_18 : decode cX3_size 18 = .ok (.iinc 2 1, 3) := by decide +kernel
theorem dX3_size_21 : decode cX3_size 21 = .ok (.goto (-17), 3) := by decide +kernel
theorem dX3_size_24 : decode cX3_size 24 = .ok (.iload_n 1, 1) := by decide +kernel
theorem dX3_size_25 : decode cX3_size 25 = .ok (.ireturn, 1) := by decide +kernel
theorem dX3_letter_0 : decode cX3_letter 0 = .ok (.iload_n 1, 1) := by decide +kernel
theorem dX3_letter_1 : decode cX3_letter 1 = .ok (.bipush 32, 2) := by decide +kernel
theorem dX3_letter_3 : decode cX3_letter 3 = .ok (.bipush 126, 2) := by decide +kernel
theorem dX3_letter_5 : decode cX3_letter 5 = .ok (.invokestatic 62, 3) := by decide +kernel
theorem dX3_letter_8 : decode cX3_letter 8 = .ok (.ifCond .ne 6, 3) := by decide +kernel
theorem dX3_letter_11 : decode cX3_letter 11 = .ok (.bipush (-102), 2) := by decide +kernel
theorem dX3_letter_13 : decode cX3_letter 13 = .ok (.ireturn, 1) := by decide +kernel
theorem dX3_letter_14 : decode cX3_letter 14 = .ok (.aload_n 0, 1) := by decide +kernel
theorem dX3_letter_15 : decode cX3_letter 15 = .ok (.getfield 66, 3) := by decide +kernel
theorem dX3_letter_18 : decode cX3_letter 18 = .ok (.bipush 19, 2) := by decide +kernel
theorem dX3_letter_20 : decode cX3_letter 20 = .ok (.if_icmp .ne 6, 3) := by decide +kernel
theorem dX3_letter_23 : decode cX3_letter 23 = .ok (.bipush (-104), 2) := by decide +kernel
theorem dX3_letter_25 : decode cX3_letter 25 = .ok (.ireturn, 1) := by decide +kernel
theorem dX3_letter_26 : decode cX3_letter 26 = .ok (.aload_n 0, 1) := by decide +kernel
theorem dX3_letter_27 : decode cX3_letter 27 = .ok (.getfield 34, 3) := by decide +kernel
theorem dX3_letter_30 : decode cX3_letter 30 = .ok (.aload_n 0, 1) := by decide +kernel
theorem dX3_letter_31 : decode cX3_letter 31 = .ok (.getfield 66, 3) := by decide +kernel
theorem dX3_letter_34 : decode cX3_letter 34 = .ok (.iload_n 1, 1) := by decide +kernel
theorem dX3_letter_35 : decode cX3_letter 35 = .ok (.i2b, 1) := by decide +kernel
theorem dX3_letter_36 : decode cX3_letter 36 = .ok (.bastore, 1) := by decide +kernel
theorem dX3_letter_37 : decode cX3_letter 37 = .ok (.aload_n 0, 1) := by decide +kernel
theorem dX3_letter_38 : decode cX3_letter 38 = .ok (.dup, 1) := by decide +kernel
theorem dX3_letter_39 : decode cX3_letter 39 = .ok (.getfield 66, 3) := by decide +kernel
theorem dX3_letter_42 : decode cX3_letter 42 = .ok (.iconst 1, 1) := by decide +kernel
theorem dX3_letter_43 : decode cX3_letter 43 = .ok (.iadd, 1) := by decide +kernel
theorem dX3_letter_44 : decode cX3_letter 44 = .ok (.putfield 66, 3) := by decide +kernel
theorem dX3_letter_47 : decode cX3_letter 47 = .ok (.aload_n 0, 1) := by decide +kernel
theorem dX3_letter_48 : decode cX3_letter 48 = .ok (.getfield 66, 3) := by decide +kernel
theorem dX3_letter_51 : decode cX3_letter 51 = .ok (.ireturn, 1) := by decide +kernel
theorem dX3_blank_0 : decode cX3_blank 0 = .ok (.aload_n 0, 1) := by decide +kernel
theorem dX3_blank_1 : decode cX3_blank 1 = .ok (.getfield 66, 3) := by decide +kernel
theorem dX3_blank_4 : decode cX3_blank 4 = .ok (.istore_n 1, 1) := by decide +kernel
theorem dX3_blank_5 : decode cX3_blank 5 = .ok (.aload_n 0, 1) := by decide +kernel
theorem dX3_blank_6 : decode cX3_blank 6 = .ok (.iconst 0, 1) := by decide +kernel
theorem dX3_blank_7 : decode cX3_blank 7 = .ok (.putfield 66, 3) := by decide +kernel
theorem dX3_blank_10 : decode cX3_blank 10 = .ok (.iload_n 1, 1) := by decide +kernel
theorem dX3_blank_11 : decode cX3_blank 11 = .ok (.ireturn, 1) := by decide +kernel
theorem dX3_kindBy_0 : decode cX3_kindBy 0 = .ok (.iload_n 0, 1) := by decide +kernel
theorem dX3_kindBy_1 : decode cX3_kindBy 1 = .ok (.lookupswitch 61 #[(98, 59), (99, 57), (104, 51), (109, 55), (116, 53)], 51) := by decide +kernel
theorem dX3_kindBy_52 : decode cX3_kindBy 52 = .ok (.iconst 0, 1) := by decide +kernel
theorem dX3_kindBy_53 : decode cX3_kindBy 53 = .ok (.ireturn, 1) := by decide +kernel
theorem dX3_kindBy_54 : decode cX3_kindBy 54 = .ok (.iconst 1, 1) := by decide +kernel
theorem dX3_kindBy_55 : decode cX3_kindBy 55 = .ok (.ireturn, 1) := by decide +kernel
theorem dX3_kindBy_56 : decode cX3_kindBy 56 = .ok (.iconst 2, 1) := by decide +kernel
theorem dX3_kindBy_57 : decode cX3_kindBy 57 = .ok (.ireturn, 1) := by decide +kernel
theorem dX3_kindBy_58 : decode cX3_kindBy 58 = .ok (.iconst 3, 1) := by decide +kernel
theorem dX3_kindBy_59 : decode cX3_kindBy 59 = .ok (.ireturn, 1) := by decide +kernel
theorem dX3_kindBy_60 : decode cX3_kindBy 60 = .ok (.iconst 4, 1) := by decide +kernel
theorem dX3_kindBy_61 : decode cX3_kindBy 61 = .ok (.ireturn, 1) := by decide +kernel
theorem dX3_kindBy_62 : decode cX3_kindBy 62 = .ok (.iconst (-1), 1) := by decide +kernel
theorem dX3_kindBy_63 : decode cX3_kindBy 63 = .ok (.ireturn, 1) := by decide +kernel
theorem dX3_isGood_0 : decode cX3_isGood 0 = .ok (.aload_n 0, 1) := by decide +kernel
theorem dX3_isGood_1 : decode cX3_isGood 1 = .ok (.getfield 34, 3) := by decide +kernel
theorem dX3_isGood_4 : decode cX3_isGood 4 = .ok (.iload_n 1, 1) := by decide +kernel
theorem dX3_isGood_5 : decode cX3_isGood 5 = .ok (.baload, 1) := by decide +kernel
theorem dX3_isGood_6 : decode cX3_isGood 6 = .ok (.istore_n 2, 1) := by decide +kernel
theorem dX3_isGood_7 : decode cX3_isGood 7 = .ok (.iload_n 1, 1) := by decide +kernel
theorem dX3_isGood_8 : decode cX3_isGood 8 = .ok (.iconst 3, 1) := by decide +kernel
theorem dX3_isGood_9 : decode cX3_isGood 9 = .ok (.irem, 1) := by decide +kernel
theorem dX3_isGood_10 : decode cX3_isGood 10 = .ok (.lookupswitch 51 #[(0, 26), (1, 40)], 26) := by decide +kernel
theorem dX3_isGood_36 : decode cX3_isGood 36 = .ok (.iload_n 2, 1) := by decide +kernel
theorem dX3_isGood_37 : decode cX3_isGood 37 = .ok (.invokestatic 70, 3) := by decide +kernel
theorem dX3_isGood_40 : decode cX3_isGood 40 = .ok (.iconst (-1), 1) := by decide +kernel
theorem dX3_isGood_41 : decode cX3_isGood 41 = .ok (.if_icmp .eq 7, 3) := by decide +kernel
theorem dX3_isGood_44 : decode cX3_isGood 44 = .ok (.iconst 1, 1) := by decide +kernel
theorem dX3_isGood_45 : decode cX3_isGood 45 = .ok (.goto 4, 3) := by decide +kernel
theorem dX3_isGood_48 : decode cX3_isGood 48 = .ok (.iconst 0, 1) := by decide +kernel
theorem dX3_isGood_49 : decode cX3_isGood 49 = .ok (.ireturn, 1) := by decide +kernel
theorem dX3_isGood_50 : decode cX3_isGood 50 = .ok (.iload_n 2, 1) := by decide +kernel
theorem dX3_isGood_51 : decode cX3_isGood 51 = .ok (.bipush 48, 2) := by decide +kernel
theorem dX3_isGood_53 : decode cX3_isGood 53 = .ok (.isub, 1) := by decide +kernel
theorem dX3_isGood_54 : decode cX3_isGood 54 = .ok (.iconst 0, 1) := by decide +kernel
theorem dX3_isGood_55 : decode cX3_isGood 55 = .ok (.bipush 9, 2) := by decide +kernel
theorem dX3_isGood_57 : decode cX3_isGood 57 = .ok (.invokestatic 62, 3) := by decide +kernel
theorem dX3_isGood_60 : decode cX3_isGood 60 = .ok (.ireturn, 1) := by decide +kernel
theorem dX3_isGood_61 : decode cX3_isGood 61 = .ok (.iload_n 2, 1) := by decide +kernel
theorem dX3_isGood_62 : decode cX3_isGood 62 = .ok (.bipush 44, 2) := by decide +kernel
theorem dX3_isGood_64 : decode cX3_isGood 64 = .ok (.if_icmp .ne 13, 3) := by decide +kernel
theorem dX3_isGood_67 : decode cX3_isGood 67 = .ok (.iload_n 1, 1) := by decide +kernel
theorem dX3_isGood_68 : decode cX3_isGood 68 = .ok (.bipush 17, 2) := by decide +kernel
theorem dX3_isGood_70 : decode cX3_isGood 70 = .ok (.if_icmp .ge 7, 3) := by decide +kernel
theorem dX3_isGood_73 : decode cX3_isGood 73 = .ok (.iconst 1, 1) := by decide +kernel
theorem dX3_isGood_74 : decode cX3_isGood 74 = .ok (.goto 4, 3) := by decide +kernel
theorem dX3_isGood_77 : decode cX3_isGood 77 = .ok (.iconst 0, 1) := by decide +kernel
theorem dX3_isGood_78 : decode cX3_isGood 78 = .ok (.ireturn, 1) := by decide +kernel
theorem dX3_faultNow_0 : decode cX3_faultNow 0 = .ok (.iconst 0, 1) := by decide +kernel
theorem dX3_faultNow_1 : decode cX3_faultNow 1 = .ok (.istore_n 1, 1) := by decide +kernel
theorem dX3_faultNow_2 : decode cX3_faultNow 2 = .ok (.iload_n 1, 1) := by decide +kernel
theorem dX3_faultNow_3 : decode cX3_faultNow 3 = .ok (.aload_n 0, 1) := by decide +kernel
theorem dX3_faultNow_4 : decode cX3_faultNow 4 = .ok (.getfield 66, 3) := by decide +kernel
theorem dX3_faultNow_7 : decode cX3_faultNow 7 = .ok (.if_icmp .ge 17, 3) := by decide +kernel
theorem dX3_faultNow_10 : decode cX3_faultNow 10 = .ok (.aload_n 0, 1) := by decide +kernel
theorem dX3_faultNow_11 : decode cX3_faultNow 11 = .ok (.iload_n 1, 1) := by decide +kernel
theorem dX3_faultNow_12 : decode cX3_faultNow 12 = .ok (.invokevirtual 74, 3) := by decide +kernel
theorem dX3_faultNow_15 : decode cX3_faultNow 15 = .ok (.ifCond .eq 9, 3) := by decide +kernel
theorem dX3_faultNow_18 : decode cX3_faultNow 18 = .ok (.iinc 1 1, 3) := by decide +kernel
theorem dX3_faultNow_21 : decode cX3_faultNow 21 = .ok (.goto (-19), 3) := by decide +kernel
theorem dX3_faultNow_24 : decode cX3_faultNow 24 = .ok (.iload_n 1, 1) := by decide +kernel
theorem dX3_faultNow_25 : decode cX3_faultNow 25 = .ok (.ireturn, 1) := by decide +kernel
theorem dX3_fault_0 : decode cX3_fault 0 = .ok (.aload_n 0, 1) := by decide +kernel
theorem dX3_fault_1 : decode cX3_fault 1 = .ok (.invokevirtual 78, 3) := by decide +kernel
theorem dX3_fault_4 : decode cX3_fault 4 = .ok (.ireturn, 1) := by decide +kernel
theorem dX3_street_0 : decode cX3_street 0 = .ok (.aload_n 0, 1) := by decide +kernel
theorem dX3_street_1 : decode cX3_street 1 = .ok (.getfield 66, 3) := by decide +kernel
theorem dX3_street_4 : decode cX3_street 4 = .ok (.iconst 5, 1) := by decide +kernel
theorem dX3_street_5 : decode cX3_street 5 = .ok (.if_icmp .lt 24, 3) := by decide +kernel
theorem dX3_street_8 : decode cX3_street 8 = .ok (.aload_n 0, 1) := by decide +kernel
theorem dX3_street_9 : decode cX3_street 9 = .ok (.getfield 66, 3) := by decide +kernel
theorem dX3_street_12 : decode cX3_street 12 = .ok (.iconst 3, 1) := by decide +kernel
theorem dX3_street_13 : decode cX3_street 13 = .ok (.irem, 1) := by decide +kernel
theorem dX3_street_14 : decode cX3_street 14 = .ok (.iconst 2, 1) := by decide +kernel
theorem dX3_street_15 : decode cX3_street 15 = .ok (.if_icmp .ne 14, 3) := by decide +kernel
theorem dX3_street_18 : decode cX3_street 18 = .ok (.aload_n 0, 1) := by decide +kernel
theorem dX3_street_19 : decode cX3_street 19 = .ok (.invokevirtual 78, 3) := by decide +kernel
theorem dX3_street_22 : decode cX3_street 22 = .ok (.aload_n 0, 1) := by decide +kernel
theorem dX3_street_23 : decode cX3_street 23 = .ok (.getfield 66, 3) := by decide +kernel
theorem dX3_street_26 : decode cX3_street 26 = .ok (.if_icmp .eq 6, 3) := by decide +kernel
theorem dX3_street_29 : decode cX3_street 29 = .ok (.bipush (-103), 2) := by decide +kernel
theorem dX3_street_31 : decode cX3_street 31 = .ok (.ireturn, 1) := by decide +kernel
theorem dX3_street_32 : decode cX3_street 32 = .ok (.aload_n 0, 1) := by decide +kernel
theorem dX3_street_33 : decode cX3_street 33 = .ok (.aload_n 0, 1) := by decide +kernel
theorem dX3_street_34 : decode cX3_street 34 = .ok (.getfield 66, 3) := by decide +kernel
theorem dX3_street_37 : decode cX3_street 37 = .ok (.iconst 1, 1) := by decide +kernel
theorem dX3_street_38 : decode cX3_street 38 = .ok (.iadd, 1) := by decide +kernel
theorem dX3_street_39 : decode cX3_street 39 = .ok (.iconst 3, 1) := by decide +kernel
theorem dX3_street_40 : decode cX3_street 40 = .ok (.idiv, 1) := by decide +kernel
theorem dX3_street_41 : decode cX3_street 41 = .ok (.putfield 82, 3) := by decide +kernel
theorem dX3_street_44 : decode cX3_street 44 = .ok (.iconst 0, 1) := by decide +kernel
theorem dX3_street_45 : decode cX3_street 45 = .ok (.istore_n 1, 1) := by decide +kernel
theorem dX3_street_46 : decode cX3_street 46 = .ok (.iload_n 1, 1) := by decide +kernel
theorem dX3_street_47 : decode cX3_street 47 = .ok (.aload_n 0, 1) := by decide +kernel
theorem dX3_street_48 : decode cX3_street 48 = .ok (.getfield 82, 3) := by decide +kernel
theorem dX3_street_51 : decode cX3_street 51 = .ok (.if_icmp .ge 52, 3) := by decide +kernel
theorem dX3_street_54 : decode cX3_street 54 = .ok (.aload_n 0, 1) := by decide +kernel
theorem dX3_street_55 : decode cX3_street 55 = .ok (.getfield 7, 3) := by decide +kernel
theorem dX3_street_58 : decode cX3_street 58 = .ok (.iload_n 1, 1) := by decide +kernel
theorem dX3_street_59 : decode cX3_street 59 = .ok (.aload_n 0, 1) := by decide +kernel
theorem dX3_street_60 : decode cX3_street 60 = .ok (.getfield 34, 3) := by decide +kernel
theorem dX3_street_63 : decode cX3_street 63 = .ok (.iconst 3, 1) := by decide +kernel
theorem dX3_street_64 : decode cX3_street 64 = .ok (.iload_n 1, 1) := by decide +kernel
theorem dX3_street_65 : decode cX3_street 65 = .ok (.imul, 1) := by decide +kernel
theorem dX3_street_66 : decode cX3_street 66 = .ok (.baload, 1) := by decide +kernel
theorem dX3_street_67 : decode cX3_street 67 = .ok (.invokestatic 70, 3) := by decide +kernel
theorem dX3_street_70 : decode cX3_street 70 = .ok (.iastore, 1) := by decide +kernel
theorem dX3_street_71 : decode cX3_street 71 = .ok (.aload_n 0, 1) := by decide +kernel
theorem dX3_street_72 : decode cX3_street 72 = .ok (.getfield 13, 3) := by decide +kernel
theorem dX3_street_75 : decode cX3_street 75 = .ok (.iload_n 1, 1) := by decide +kernel
theorem dX3_street_76 : decode cX3_street 76 = .ok (.aload_n 0, 1) := by decide +kernel
theorem dX3_street_77 : decode cX3_street 77 = .ok (.getfield 34, 3) := by decide +kernel
theorem dX3_street_80 : decode cX3_street 80 = .ok (.iconst 3, 1) := by decide +kernel
theorem dX3_street_81 : decode cX3_street 81 = .ok (.iload_n 1, 1) := by decide +kernel
theorem dX3_street_82 : decode cX3_street 82 = .ok (.imul, 1) := by decide +kernel
theorem dX3_street_83 : decode cX3_street 83 = .ok (.iconst 1, 1) := by decide +kernel
theorem dX3_street_84 : decode cX3_street 84 = .ok (.iadd, 1) := by decide +kernel
theorem dX3_street_85 : decode cX3_street 85 = .ok (.baload, 1) := by decide +kernel
theorem dX3_street_86 : decode cX3_street 86 = .ok (.bipush 48, 2) := by decide +kernel
theorem dX3_street_88 : decode cX3_street 88 = .ok (.isub, 1) := by decide +kernel
theorem dX3_street_89 : decode cX3_street 89 = .ok (.iastore, 1) := by decide +kernel
theorem dX3_street_90 : decode cX3_street 90 = .ok (.aload_n 0, 1) := by decide +kernel
theorem dX3_street_91 : decode cX3_street 91 = .ok (.getfield 16, 3) := by decide +kernel
theorem dX3_street_94 : decode cX3_street 94 = .ok (.iload_n 1, 1) := by decide +kernel
theorem dX3_street_95 : decode cX3_street 95 = .ok (.iconst 0, 1) := by decide +kernel
theorem dX3_street_96 : decode cX3_street 96 = .ok (.iastore, 1) := by decide +kernel
theorem dX3_street_97 : decode cX3_street 97 = .ok (.iinc 1 1, 3) := by decide +kernel
theorem dX3_street_100 : decode cX3_street 100 = .ok (.goto (-54), 3) := by decide +kernel
theorem dX3_street_103 : decode cX3_street 103 = .ok (.aload_n 0, 1) := by decide +kernel
theorem dX3_street_104 : decode cX3_street 104 = .ok (.dup, 1) := by decide +kernel
theorem dX3_street_105 : decode cX3_street 105 = .ok (.getfield 85, 3) := by decide +kernel
theorem dX3_street_108 : decode cX3_street 108 = .ok (.iconst 1, 1) := by decide +kernel
theorem dX3_street_109 : decode cX3_street 109 = .ok (.iadd, 1) := by decide +kernel
theorem dX3_street_110 : decode cX3_street 110 = .ok (.putfield 85, 3) := by decide +kernel
theorem dX3_street_113 : decode cX3_street 113 = .ok (.aload_n 0, 1) := by decide +kernel
theorem dX3_street_114 : decode cX3_street 114 = .ok (.iconst 0, 1) := by decide +kernel
theorem dX3_street_115 : decode cX3_street 115 = .ok (.putfield 88, 3) := by decide +kernel
theorem dX3_street_118 : decode cX3_street 118 = .ok (.aload_n 0, 1) := by decide +kernel
theorem dX3_street_119 : decode cX3_street 119 = .ok (.iconst 0, 1) := by decide +kernel
theorem dX3_street_120 : decode cX3_street 120 = .ok (.putfield 91, 3) := by decide +kernel
theorem dX3_street_123 : decode cX3_street 123 = .ok (.aload_n 0, 1) := by decide +kernel
theorem dX3_street_124 : decode cX3_street 124 = .ok (.iconst 0, 1) := by decide +kernel
theorem dX3_street_125 : decode cX3_street 125 = .ok (.putfield 94, 3) := by decide +kernel
theorem dX3_street_128 : decode cX3_street 128 = .ok (.aload_n 0, 1) := by decide +kernel
theorem dX3_street_129 : decode cX3_street 129 = .ok (.iconst 0, 1) := by decide +kernel
theorem dX3_street_130 : decode cX3_street 130 = .ok (.putfield 97, 3) := by decide +kernel
theorem dX3_street_133 : decode cX3_street 133 = .ok (.aload_n 0, 1) := by decide +kernel
theorem dX3_street_134 : decode cX3_street 134 = .ok (.iconst 0, 1) := by decide +kernel
theorem dX3_street_135 : decode cX3_street 135 = .ok (.putfield 66, 3) := by decide +kernel
theorem dX3_street_138 : decode cX3_street 138 = .ok (.aload_n 0, 1) := by decide +kernel
theorem dX3_street_139 : decode cX3_street 139 = .ok (.getfield 82, 3) := by decide +kernel
theorem dX3_street_142 : decode cX3_street 142 = .ok (.ireturn, 1) := by decide +kernel
theorem dX3_isHouse_0 : decode cX3_isHouse 0 = .ok (.iload_n 1, 1) := by decide +kernel
theorem dX3_isHouse_1 : decode cX3_isHouse 1 = .ok (.iconst 0, 1) := by decide +kernel
theorem dX3_isHouse_2 : decode cX3_isHouse 2 = .ok (.aload_n 0, 1) := by decide +kernel
theorem dX3_isHouse_3 : decode cX3_isHouse 3 = .ok (.getfield 82, 3) := by decide +kernel
theorem dX3_isHouse_6 : decode cX3_isHouse 6 = .ok (.iconst 1, 1) := by decide +kernel
theorem dX3_isHouse_7 : decode cX3_isHouse 7 = .ok (.isub, 1) := by decide +kernel
theorem dX3_isHouse_8 : decode cX3_isHouse 8 = .ok (.invokestatic 62, 3) := by decide +kernel
theorem dX3_isHouse_11 : decode cX3_isHouse 11 = .ok (.ireturn, 1) := by decide +kernel
theorem dX3_isDay_0 : decode cX3_isDay 0 = .ok (.aload_n 0, 1) := by decide +kernel
theorem dX3_isDay_1 : decode cX3_isDay 1 = .ok (.getfield 82, 3) := by decide +kernel
theorem dX3_isDay_4 : decode cX3_isDay 4 = .ok (.ifCond .le 19, 3) := by decide +kernel
theorem dX3_isDay_7 : decode cX3_isDay 7 = .ok (.iload_n 1, 1) := by decide +kernel
theorem dX3_isDay_8 : decode cX3_isDay 8 = .ok (.iconst 0, 1) := by decide +kernel
theorem dX3_isDay_9 : decode cX3_isDay 9 = .ok (.aload_n 0, 1) := by decide +kernel
theorem dX3_isDay_10 : decode cX3_isDay 10 = .ok (.getfield 88, 3) := by decide +kernel
theorem dX3_isDay_13 : decode cX3_isDay 13 = .ok (.invokestatic 62, 3) := by decide +kernel
theorem dX3_isDay_16 : decode cX3_isDay 16 = .ok (.ifCond .eq 7, 3) := by decide +kernel
theorem dX3_isDay_19 : decode cX3_isDay 19 = .ok (.iconst 1, 1) := by decide +kernel
theorem dX3_isDay_20 : decode cX3_isDay 20 = .ok (.goto 4, 3) := by decide +kernel
theorem dX3_isDay_23 : decode cX3_isDay 23 = .ok (.iconst 0, 1) := by decide +kernel
theorem dX3_isDay_24 : decode cX3_isDay 24 = .ok (.ireturn, 1) := by decide +kernel
theorem dX3_numberBy_0 : decode cX3_numberBy 0 = .ok (.aload_n 0, 1) := by decide +kernel
theorem dX3_numberBy_1 : decode cX3_numberBy 1 = .ok (.getfield 7, 3) := by decide +kernel
theorem dX3_numberBy_4 : decode cX3_numberBy 4 = .ok (.iload_n 1, 1) := by decide +kernel
theorem dX3_numberBy_5 : decode cX3_numberBy 5 = .ok (.iaload, 1) := by decide +kernel
theorem dX3_numberBy_6 : decode cX3_numberBy 6 = .ok (.iconst 1, 1) := by decide +kernel
theorem dX3_numberBy_7 : decode cX3_numberBy 7 = .ok (.if_icmp .ne 9, 3) := by decide +kernel
theorem dX3_numberBy_10 : decode cX3_numberBy 10 = .ok (.iload_n 2, 1) := by decide +kernel
theorem dX3_numberBy_11 : decode cX3_numberBy 11 = .ok (.iconst 2, 1) := by decide +kernel
theorem dX3_numberBy_12 : decode cX3_numberBy 12 = .ok (.idiv, 1) := by decide +kernel
theorem dX3_numberBy_13 : decode cX3_numberBy 13 = .ok (.goto 4, 3) := by decide +kernel
theorem dX3_numberBy_16 : decode cX3_numberBy 16 = .ok (.iload_n 2, 1) := by decide +kernel
theorem dX3_numberBy_17 : decode cX3_numberBy 17 = .ok (.ireturn, 1) := by decide +kernel
theorem dX3_number_0 : decode cX3_number 0 = .ok (.aload_n 0, 1) := by decide +kernel
theorem dX3_number_1 : decode cX3_number 1 = .ok (.iload_n 1, 1) := by decide +kernel
theorem dX3_number_2 : decode cX3_number 2 = .ok (.aload_n 0, 1) := by decide +kernel
theorem dX3_number_3 : decode cX3_number 3 = .ok (.getfield 13, 3) := by decide +kernel
theorem dX3_number_6 : decode cX3_number 6 = .ok (.iload_n 1, 1) := by decide +kernel
theorem dX3_number_7 : decode cX3_number 7 = .ok (.iaload, 1) := by decide +kernel
theorem dX3_number_8 : decode cX3_number 8 = .ok (.invokevirtual 100, 3) := by decide +kernel
theorem dX3_number_11 : decode cX3_number 11 = .ok (.ireturn, 1) := by decide +kernel
theorem dX3_numberOn_0 : decode cX3_numberOn 0 = .ok (.aload_n 0, 1) := by decide +kernel
theorem dX3_numberOn_1 : decode cX3_numberOn 1 = .ok (.iload_n 1, 1) := by decide +kernel
theorem dX3_numberOn_2 : decode cX3_numberOn 2 = .ok (.iload_n 2, 1) := by decide +kernel
theorem dX3_numberOn_3 : decode cX3_numberOn 3 = .ok (.aload_n 0, 1) := by decide +kernel
theorem dX3_numberOn_4 : decode cX3_numberOn 4 = .ok (.getfield 88, 3) := by decide +kernel
theorem dX3_numberOn_7 : decode cX3_numberOn 7 = .ok (.if_icmp .ne 12, 3) := by decide +kernel
theorem dX3_numberOn_10 : decode cX3_numberOn 10 = .ok (.aload_n 0, 1) := by decide +kernel
theorem dX3_numberOn_11 : decode cX3_numberOn 11 = .ok (.getfield 13, 3) := by decide +kernel
theorem dX3_numberOn_14 : decode cX3_numberOn 14 = .ok (.iload_n 1, 1) := by decide +kernel
theorem dX3_numberOn_15 : decode cX3_numberOn 15 = .ok (.iaload, 1) := by decide +kernel
theorem dX3_numberOn_16 : decode cX3_numberOn 16 = .ok (.goto 14, 3) := by decide +kernel
theorem dX3_numberOn_19 : decode cX3_numberOn 19 = .ok (.aload_n 0, 1) := by decide +kernel
theorem dX3_numberOn_20 : decode cX3_numberOn 20 = .ok (.getfield 19, 3) := by decide +kernel
theorem dX3_numberOn_23 : decode cX3_numberOn 23 = .ok (.bipush 6, 2) := by decide +kernel
theorem dX3_numberOn_25 : decode cX3_numberOn 25 = .ok (.iload_n 2, 1) := by decide +kernel
theorem dX3_numberOn_26 : decode cX3_numberOn 26 = .ok (.imul, 1) := by decide +kernel
theorem dX3_numberOn_27 : decode cX3_numberOn 27 = .ok (.iload_n 1, 1) := by decide +kernel
theorem dX3_numberOn_28 : decode cX3_numberOn 28 = .ok (.iadd, 1) := by decide +kernel
theorem dX3_numberOn_29 : decode cX3_numberOn 29 = .ok (.iaload, 1) := by decide +kernel
theorem dX3_numberOn_30 : decode cX3_numberOn 30 = .ok (.invokevirtual 100, 3) := by decide +kernel
theorem dX3_numberOn_33 : decode cX3_numberOn 33 = .ok (.ireturn, 1) := by decide +kernel
theorem dX3_mayBirth_0 : decode cX3_mayBirth 0 = .ok (.aload_n 0, 1) := by decide +kernel
theorem dX3_mayBirth_1 : decode cX3_mayBirth 1 = .ok (.getfield 7, 3) := by decide +kernel
theorem dX3_mayBirth_4 : decode cX3_mayBirth 4 = .ok (.iload_n 1, 1) := by decide +kernel
theorem dX3_mayBirth_5 : decode cX3_mayBirth 5 = .ok (.iaload, 1) := by decide +kernel
theorem dX3_mayBirth_6 : decode cX3_mayBirth 6 = .ok (.iconst 2, 1) := by decide +kernel
theorem dX3_mayBirth_7 : decode cX3_mayBirth 7 = .ok (.if_icmp .eq 17, 3) := by decide +kernel
theorem dX3_mayBirth_10 : decode cX3_mayBirth 10 = .ok (.aload_n 0, 1) := by decide +kernel
theorem dX3_mayBirth_11 : decode cX3_mayBirth 11 = .ok (.getfield 7, 3) := by decide +kernel
theorem dX3_mayBirth_14 : decode cX3_mayBirth 14 = .ok (.iload_n 1, 1) := by decide +kernel
theorem dX3_mayBirth_15 : decode cX3_mayBirth 15 = .ok (.iaload, 1) := by decide +kernel
theorem dX3_mayBirth_16 : decode cX3_mayBirth 16 = .ok (.iconst 4, 1) := by decide +kernel
theorem dX3_mayBirth_17 : decode cX3_mayBirth 17 = .ok (.if_icmp .eq 7, 3) := by decide +kernel
theorem dX3_mayBirth_20 : decode cX3_mayBirth 20 = .ok (.iconst 1, 1) := by decide +kernel
theorem dX3_mayBirth_21 : decode cX3_mayBirth 21 = .ok (.goto 4, 3) := by decide +kernel
theorem dX3_mayBirth_24 : decode cX3_mayBirth 24 = .ok (.iconst 0, 1) := by decide +kernel
theorem dX3_mayBirth_25 : decode cX3_mayBirth 25 = .ok (.ireturn, 1) := by decide +kernel
theorem dX3_lends_0 : decode cX3_lends 0 = .ok (.iload_n 1, 1) := by decide +kernel
theorem dX3_lends_1 : decode cX3_lends 1 = .ok (.iconst 1, 1) := by decide +kernel
theorem dX3_lends_2 : decode cX3_lends 2 = .ok (.iadd, 1) := by decide +kernel
theorem dX3_lends_3 : decode cX3_lends 3 = .ok (.aload_n 0, 1) := by decide +kernel
theorem dX3_lends_4 : decode cX3_lends 4 = .ok (.getfield 82, 3) := by decide +kernel
theorem dX3_lends_7 : decode cX3_lends 7 = .ok (.if_icmp .ge 19, 3) := by decide +kernel
theorem dX3_lends_10 : decode cX3_lends 10 = .ok (.aload_n 0, 1) := by decide +kernel
theorem dX3_lends_11 : decode cX3_lends 11 = .ok (.getfield 7, 3) := by decide +kernel
theorem dX3_lends_14 : decode cX3_lends 14 = .ok (.iload_n 1, 1) := by decide +kernel
theorem dX3_lends_15 : decode cX3_lends 15 = .ok (.iconst 1, 1) := by decide +kernel
theorem dX3_lends_16 : decode cX3_lends 16 = .ok (.iadd, 1) := by decide +kernel
theorem dX3_lends_17 : decode cX3_lends 17 = .ok (.iaload, 1) := by decide +kernel
theorem dX3_lends_18 : decode cX3_lends 18 = .ok (.iconst 3, 1) := by decide +kernel
theorem dX3_lends_19 : decode cX3_lends 19 = .ok (.if_icmp .ne 7, 3) := by decide +kernel
theorem dX3_lends_22 : decode cX3_lends 22 = .ok (.iconst 1, 1) := by decide +kernel
theorem dX3_lends_23 : decode cX3_lends 23 = .ok (.goto 4, 3) := by decide +kernel
theorem dX3_lends_26 : decode cX3_lends 26 = .ok (.iconst 0, 1) := by decide +kernel
theorem dX3_lends_27 : decode cX3_lends 27 = .ok (.ireturn, 1) := by decide +kernel
theorem dX3_ageNone_0 : decode cX3_ageNone 0 = .ok (.aload_n 0, 1) := by decide +kernel
theorem dX3_ageNone_1 : decode cX3_ageNone 1 = .ok (.getfield 13, 3) := by decide +kernel
theorem dX3_ageNone_4 : decode cX3_ageNone 4 = .ok (.iload_n 1, 1) := by decide +kernel
theorem dX3_ageNone_5 : decode cX3_ageNone 5 = .ok (.iconst 0, 1) := by decide +kernel
theorem dX3_ageNone_6 : decode cX3_ageNone 6 = .ok (.iastore, 1) := by decide +kernel
theorem dX3_ageNone_7 : decode cX3_ageNone 7 = .ok (.aload_n 0, 1) := by decide +kernel
theorem dX3_ageNone_8 : decode cX3_ageNone 8 = .ok (.iload_n 1, 1) := by decide +kernel
theorem dX3_ageNone_9 : decode cX3_ageNone 9 = .ok (.invokevirtual 104, 3) := by decide +kernel
theorem dX3_ageNone_12 : decode cX3_ageNone 12 = .ok (.ifCond .eq 12, 3) := by decide +kernel
theorem dX3_ageNone_15 : decode cX3_ageNone 15 = .ok (.aload_n 0, 1) := by decide +kernel
theorem dX3_ageNone_16 : decode cX3_ageNone 16 = .ok (.getfield 13, 3) := by decide +kernel
theorem dX3_ageNone_19 : decode cX3_ageNone 19 = .ok (.iload_n 1, 1) := by decide +kernel
theorem dX3_ageNone_20 : decode cX3_ageNone 20 = .ok (.iconst 1, 1) := by decide +kernel
theorem dX3_ageNone_21 : decode cX3_ageNone 21 = .ok (.iadd, 1) := by decide +kernel
theorem dX3_ageNone_22 : decode cX3_ageNone 22 = .ok (.iconst 0, 1) := by decide +kernel
theorem dX3_ageNone_23 : decode cX3_ageNone 23 = .ok (.iastore, 1) := by decide +kernel
theorem dX3_ageNone_24 : decode cX3_ageNone 24 = .ok (.return_, 1) := by decide +kernel
theorem dX3_ageMore_0 : decode cX3_ageMore 0 = .ok (.iconst 0, 1) := by decide +kernel
theorem dX3_ageMore_1 : decode cX3_ageMore 1 = .ok (.istore_n 1, 1) := by decide +kernel
theorem dX3_ageMore_2 : decode cX3_ageMore 2 = .ok (.iload_n 1, 1) := by decide +kernel
theorem dX3_ageMore_3 : decode cX3_ageMore 3 = .ok (.aload_n 0, 1) := by decide +kernel
theorem dX3_ageMore_4 : decode cX3_ageMore 4 = .ok (.getfield 82, 3) := by decide +kernel
theorem dX3_ageMore_7 : decode cX3_ageMore 7 = .ok (.if_icmp .ge 33, 3) := by decide +kernel
theorem dX3_ageMore_10 : decode cX3_ageMore 10 = .ok (.aload_n 0, 1) := by decide +kernel
theorem dX3_ageMore_11 : decode cX3_ageMore 11 = .ok (.getfield 13, 3) := by decide +kernel
theorem dX3_ageMore_14 : decode cX3_ageMore 14 = .ok (.iload_n 1, 1) := by decide +kernel
theorem dX3_ageMore_15 : decode cX3_ageMore 15 = .ok (.dup2, 1) := by decide +kernel
theorem dX3_ageMore_16 : decode cX3_ageMore 16 = .ok (.iaload, 1) := by decide +kernel
theorem dX3_ageMore_17 : decode cX3_ageMore 17 = .ok (.aload_n 0, 1) := by decide +kernel
theorem dX3_ageMore_18 : decode cX3_ageMore 18 = .ok (.getfield 7, 3) := by decide +kernel
theorem dX3_ageMore_21 : decode cX3_ageMore 21 = .ok (.iload_n 1, 1) := by decide +kernel
theorem dX3_ageMore_22 : decode cX3_ageMore 22 = .ok (.iaload, 1) := by decide +kernel
theorem dX3_ageMore_23 : decode cX3_ageMore 23 = .ok (.iconst 4, 1) := by decide +kernel
theorem dX3_ageMore_24 : decode cX3_ageMore 24 = .ok (.if_icmp .ne 7, 3) := by decide +kernel
theorem dX3_ageMore_27 : decode cX3_ageMore 27 = .ok (.iconst 0, 1) := by decide +kernel
theorem dX3_ageMore_28 : decode cX3_ageMore 28 = .ok (.goto 4, 3) := by decide +kernel
theorem dX3_ageMore_31 : decode cX3_ageMore 31 = .ok (.iconst 1, 1) := by decide +kernel
theorem dX3_ageMore_32 : decode cX3_ageMore 32 = .ok (.iadd, 1) := by decide +kernel
theorem dX3_ageMore_33 : decode cX3_ageMore 33 = .ok (.iastore, 1) := by decide +kernel
theorem dX3_ageMore_34 : decode cX3_ageMore 34 = .ok (.iinc 1 1, 3) := by decide +kernel
theorem dX3_ageMore_37 : decode cX3_ageMore 37 = .ok (.goto (-35), 3) := by decide +kernel
theorem dX3_ageMore_40 : decode cX3_ageMore 40 = .ok (.return_, 1) := by decide +kernel
theorem dX3_orderOf_0 : decode cX3_orderOf 0 = .ok (.iconst 0, 1) := by decide +kernel
theorem dX3_orderOf_1 : decode cX3_orderOf 1 = .ok (.istore_n 2, 1) := by decide +kernel
theorem dX3_orderOf_2 : decode cX3_orderOf 2 = .ok (.iconst 0, 1) := by decide +kernel
theorem dX3_orderOf_3 : decode cX3_orderOf 3 = .ok (.istore_n 3, 1) := by decide +kernel
theorem dX3_orderOf_4 : decode cX3_orderOf 4 = .ok (.iload_n 3, 1) := by decide +kernel
theorem dX3_orderOf_5 : decode cX3_orderOf 5 = .ok (.aload_n 0, 1) := by decide +kernel
theorem dX3_orderOf_6 : decode cX3_orderOf 6 = .ok (.getfield 82, 3) := by decide +kernel
theorem dX3_orderOf_9 : decode cX3_orderOf 9 = .ok (.if_icmp .ge 48, 3) := by decide +kernel
theorem dX3_orderOf_12 : decode cX3_orderOf 12 = .ok (.iload_n 2, 1) := by decide +kernel
theorem dX3_orderOf_13 : decode cX3_orderOf 13 = .ok (.aload_n 0, 1) := by decide +kernel
theorem dX3_orderOf_14 : decode cX3_orderOf 14 = .ok (.iload_n 3, 1) := by decide +kernel
theorem dX3_orderOf_15 : decode cX3_orderOf 15 = .ok (.invokevirtual 107, 3) := by decide +kernel
theorem dX3_orderOf_18 : decode cX3_orderOf 18 = .ok (.aload_n 0, 1) := by decide +kernel
theorem dX3_orderOf_19 : decode cX3_orderOf 19 = .ok (.iload_n 1, 1) := by decide +kernel
theorem dX3_orderOf_20 : decode cX3_orderOf 20 = .ok (.invokevirtual 107, 3) := by decide +kernel
theorem dX3_orderOf_23 : decode cX3_orderOf 23 = .ok (.if_icmp .lt 21, 3) := by decide +kernel
theorem dX3_orderOf_26 : decode cX3_orderOf 26 = .ok (.aload_n 0, 1) := by decide +kernel
theorem dX3_orderOf_27 : decode cX3_orderOf 27 = .ok (.iload_n 3, 1) := by decide +kernel
theorem dX3_orderOf_28 : decode cX3_orderOf 28 = .ok (.invokevirtual 107, 3) := by decide +kernel
theorem dX3_orderOf_31 : decode cX3_orderOf 31 = .ok (.aload_n 0, 1) := by decide +kernel
theorem dX3_orderOf_32 : decode cX3_orderOf 32 = .ok (.iload_n 1, 1) := by decide +kernel
theorem dX3_orderOf_33 : decode cX3_orderOf 33 = .ok (.invokevirtual 107, 3) := by decide +kernel
theorem dX3_orderOf_36 : decode cX3_orderOf 36 = .ok (.if_icmp .ne 12, 3) := by decide +kernel
theorem dX3_orderOf_39 : decode cX3_orderOf 39 = .ok (.iload_n 3, 1) := by decide +kernel
theorem dX3_orderOf_40 : decode cX3_orderOf 40 = .ok (.iload_n 1, 1) := by decide +kernel
theorem dX3_orderOf_41 : decode cX3_orderOf 41 = .ok (.if_icmp .ge 7, 3) := by decide +kernel
theorem dX3_orderOf_44 : decode cX3_orderOf 44 = .ok (.iconst 1, 1) := by decide +kernel
theorem dX3_orderOf_45 : decode cX3_orderOf 45 = .ok (.goto 4, 3) := by decide +kernel
theorem dX3_orderOf_48 : decode cX3_orderOf 48 = .ok (.iconst 0, 1) := by decide +kernel
theorem dX3_orderOf_49 : decode cX3_orderOf 49 = .ok (.iadd, 1) := by decide +kernel
theorem dX3_orderOf_50 : decode cX3_orderOf 50 = .ok (.istore_n 2, 1) := by decide +kernel
theorem dX3_orderOf_51 : decode cX3_orderOf 51 = .ok (.iinc 3 1, 3) := by decide +kernel
theorem dX3_orderOf_54 : decode cX3_orderOf 54 = .ok (.goto (-50), 3) := by decide +kernel
theorem dX3_orderOf_57 : decode cX3_orderOf 57 = .ok (.iload_n 2, 1) := by decide +kernel
theorem dX3_orderOf_58 : decode cX3_orderOf 58 = .ok (.ireturn, 1) := by decide +kernel
theorem dX3_walkNow_0 : decode cX3_walkNow 0 = .ok (.iconst 0, 1) := by decide +kernel
theorem dX3_walkNow_1 : decode cX3_walkNow 1 = .ok (.istore_n 1, 1) := by decide +kernel
theorem dX3_walkNow_2 : decode cX3_walkNow 2 = .ok (.iconst 0, 1) := by decide +kernel
theorem dX3_walkNow_3 : decode cX3_walkNow 3 = .ok (.istore_n 2, 1) := by decide +kernel
theorem dX3_walkNow_4 : decode cX3_walkNow 4 = .ok (.iconst 0, 1) := by decide +kernel
theorem dX3_walkNow_5 : decode cX3_walkNow 5 = .ok (.istore_n 3, 1) := by decide +kernel
theorem dX3_walkNow_6 : decode cX3_walkNow 6 = .ok (.iload_n 3, 1) := by decide +kernel
theorem dX3_walkNow_7 : decode cX3_walkNow 7 = .ok (.aload_n 0, 1) := by decide +kernel
theorem dX3_walkNow_8 : decode cX3_walkNow 8 = .ok (.getfield 82, 3) := by decide +kernel
theorem dX3_walkNow_11 : decode cX3_walkNow 11 = .ok (.if_icmp .ge 51, 3) := by decide +kernel
theorem dX3_walkNow_14 : decode cX3_walkNow 14 = .ok (.iconst 0, 1) := by decide +kernel
theorem dX3_walkNow_15 : decode cX3_walkNow 15 = .ok (.istore 4, 2) := by decide +kernel
theorem dX3_walkNow_17 : decode cX3_walkNow 17 = .ok (.aload_n 0, 1) := by decide +kernel
theorem dX3_walkNow_18 : decode cX3_walkNow 18 = .ok (.iload 4, 2) := by decide +kernel
theorem dX3_walkNow_20 : decode cX3_walkNow 20 = .ok (.invokevirtual 110, 3) := by decide +kernel
theorem dX3_walkNow_23 : decode cX3_walkNow 23 = .ok (.iload_n 3, 1) := by decide +kernel
theorem dX3_walkNow_24 : decode cX3_walkNow 24 = .ok (.if_icmp .eq 9, 3) := by decide +kernel
theorem dX3_walkNow_27 : decode cX3_walkNow 27 = .ok (.iinc 4 1, 3) := by decide +kernel
theorem dX3_walkNow_30 : decode cX3_walkNow 30 = .ok (.goto (-13), 3) := by decide +kernel
theorem dX3_walkNow_33 : decode cX3_walkNow 33 = .ok (.iload_n 1, 1) := by decide +kernel
theorem dX3_walkNow_34 : decode cX3_walkNow 34 = .ok (.iload 4, 2) := by decide +kernel
theorem dX3_walkNow_36 : decode cX3_walkNow 36 = .ok (.iload_n 2, 1) := by decide +kernel
theorem dX3_walkNow_37 : decode cX3_walkNow 37 = .ok (.if_icmp .le 10, 3) := by decide +kernel
theorem dX3_walkNow_40 : decode cX3_walkNow 40 = .ok (.iload 4, 2) := by decide +kernel
theorem dX3_walkNow_42 : decode cX3_walkNow 42 = .ok (.iload_n 2, 1) := by decide +kernel
theorem dX3_walkNow_43 : decode cX3_walkNow 43 = .ok (.isub, 1) := by decide +kernel
theorem dX3_walkNow_44 : decode cX3_walkNow 44 = .ok (.goto 7, 3) := by decide +kernel
theorem dX3_walkNow_47 : decode cX3_walkNow 47 = .ok (.iload_n 2, 1) := by decide +kernel
theorem dX3_walkNow_48 : decode cX3_walkNow 48 = .ok (.iload 4, 2) := by decide +kernel
theorem dX3_walkNow_50 : decode cX3_walkNow 50 = .ok (.isub, 1) := by decide +kernel
theorem dX3_walkNow_51 : decode cX3_walkNow 51 = .ok (.iadd, 1) := by decide +kernel
theorem dX3_walkNow_52 : decode cX3_walkNow 52 = .ok (.istore_n 1, 1) := by decide +kernel
theorem dX3_walkNow_53 : decode cX3_walkNow 53 = .ok (.iload 4, 2) := by decide +kernel
theorem dX3_walkNow_55 : decode cX3_walkNow 55 = .ok (.istore_n 2, 1) := by decide +kernel
theorem dX3_walkNow_56 : decode cX3_walkNow 56 = .ok (.iinc 3 1, 3) := by decide +kernel
theorem dX3_walkNow_59 : decode cX3_walkNow 59 = .ok (.goto (-53), 3) := by decide +kernel
theorem dX3_walkNow_62 : decode cX3_walkNow 62 = .ok (.iload_n 1, 1) := by decide +kernel
theorem dX3_walkNow_63 : decode cX3_walkNow 63 = .ok (.ireturn, 1) := by decide +kernel
theorem dX3_houseOf_0 : decode cX3_houseOf 0 = .ok (.iconst (-1), 1) := by decide +kernel
theorem dX3_houseOf_1 : decode cX3_houseOf 1 = .ok (.istore_n 3, 1) := by decide +kernel
theorem dX3_houseOf_2 : decode cX3_houseOf 2 = .ok (.aload_n 0, 1) := by decide +kernel
theorem dX3_houseOf_3 : decode cX3_houseOf 3 = .ok (.getfield 82, 3) := by decide +kernel
theorem dX3_houseOf_6 : decode cX3_houseOf 6 = .ok (.iconst 1, 1) := by decide +kernel
theorem dX3_houseOf_7 : decode cX3_houseOf 7 = .ok (.isub, 1) := by decide +kernel
theorem dX3_houseOf_8 : decode cX3_houseOf 8 = .ok (.istore 4, 2) := by decide +kernel
theorem dX3_houseOf_10 : decode cX3_houseOf 10 = .ok (.iload 4, 2) := by decide +kernel
theorem dX3_houseOf_12 : decode cX3_houseOf 12 = .ok (.ifCond .lt 27, 3) := by decide +kernel
theorem dX3_houseOf_15 : decode cX3_houseOf 15 = .ok (.aload_n 0, 1) := by decide +kernel
theorem dX3_houseOf_16 : decode cX3_houseOf 16 = .ok (.iload 4, 2) := by decide +kernel
theorem dX3_houseOf_18 : decode cX3_houseOf 18 = .ok (.iload_n 2, 1) := by decide +kernel
theorem dX3_houseOf_19 : decode cX3_houseOf 19 = .ok (.invokevirtual 113, 3) := by decide +kernel
theorem dX3_houseOf_22 : decode cX3_houseOf 22 = .ok (.iload_n 1, 1) := by decide +kernel
theorem dX3_houseOf_23 : decode cX3_houseOf 23 = .ok (.if_icmp .ne 8, 3) := by decide +kernel
theorem dX3_houseOf_26 : decode cX3_houseOf 26 = .ok (.iload 4, 2) := by decide +kernel
theorem dX3_houseOf_28 : decode cX3_houseOf 28 = .ok (.goto 4, 3) := by decide +kernel
theorem dX3_houseOf_31 : decode cX3_houseOf 31 = .ok (.iload_n 3, 1) := by decide +kernel
theorem dX3_houseOf_32 : decode cX3_houseOf 32 = .ok (.istore_n 3, 1) := by decide +kernel
theorem dX3_houseOf_33 : decode cX3_houseOf 33 = .ok (.iinc 4 (-1), 3) := by decide +kernel
theorem dX3_houseOf_36 : decode cX3_houseOf 36 = .ok (.goto (-26), 3) := by decide +kernel
theorem dX3_houseOf_39 : decode cX3_houseOf 39 = .ok (.iload_n 3, 1) := by decide +kernel
theorem dX3_houseOf_40 : decode cX3_houseOf 40 = .ok (.ireturn, 1) := by decide +kernel
theorem dX3_owes_0 : decode cX3_owes 0 = .ok (.iconst 0, 1) := by decide +kernel
theorem dX3_owes_1 : decode cX3_owes 1 = .ok (.istore_n 2, 1) := by decide +kernel
theorem dX3_owes_2 : decode cX3_owes 2 = .ok (.iconst 0, 1) := by decide +kernel
theorem dX3_owes_3 : decode cX3_owes 3 = .ok (.istore_n 3, 1) := by decide +kernel
theorem dX3_owes_4 : decode cX3_owes 4 = .ok (.iload_n 3, 1) := by decide +kernel
theorem dX3_owes_5 : decode cX3_owes 5 = .ok (.aload_n 0, 1) := by decide +kernel
theorem dX3_owes_6 : decode cX3_owes 6 = .ok (.getfield 94, 3) := by decide +kernel
theorem dX3_owes_9 : decode cX3_owes 9 = .ok (.if_icmp .ge 40, 3) := by decide +kernel
theorem dX3_owes_12 : decode cX3_owes 12 = .ok (.iload_n 2, 1) := by decide +kernel
theorem dX3_owes_13 : decode cX3_owes 13 = .ok (.aload_n 0, 1) := by decide +kernel
theorem dX3_owes_14 : decode cX3_owes 14 = .ok (.aload_n 0, 1) := by decide +kernel
theorem dX3_owes_15 : decode cX3_owes 15 = .ok (.getfield 25, 3) := by decide +kernel
theorem dX3_owes_18 : decode cX3_owes 18 = .ok (.iload_n 3, 1) := by decide +kernel
theorem dX3_owes_19 : decode cX3_owes 19 = .ok (.iaload, 1) := by decide +kernel
theorem dX3_owes_20 : decode cX3_owes 20 = .ok (.aload_n 0, 1) := by decide +kernel
theorem dX3_owes_21 : decode cX3_owes 21 = .ok (.getfield 88, 3) := by decide +kernel
theorem dX3_owes_24 : decode cX3_owes 24 = .ok (.invokevirtual 116, 3) := by decide +kernel
theorem dX3_owes_27 : decode cX3_owes 27 = .ok (.iload_n 1, 1) := by decide +kernel
theorem dX3_owes_28 : decode cX3_owes 28 = .ok (.if_icmp .ne 12, 3) := by decide +kernel
theorem dX3_owes_31 : decode cX3_owes 31 = .ok (.aload_n 0, 1) := by decide +kernel
theorem dX3_owes_32 : decode cX3_owes 32 = .ok (.getfield 22, 3) := by decide +kernel
theorem dX3_owes_35 : decode cX3_owes 35 = .ok (.iload_n 3, 1) := by decide +kernel
theorem dX3_owes_36 : decode cX3_owes 36 = .ok (.iaload, 1) := by decide +kernel
theorem dX3_owes_37 : decode cX3_owes 37 = .ok (.goto 4, 3) := by decide +kernel
theorem dX3_owes_40 : decode cX3_owes 40 = .ok (.iconst 0, 1) := by decide +kernel
theorem dX3_owes_41 : decode cX3_owes 41 = .ok (.iadd, 1) := by decide +kernel
theorem dX3_owes_42 : decode cX3_owes 42 = .ok (.istore_n 2, 1) := by decide +kernel
theorem dX3_owes_43 : decode cX3_owes 43 = .ok (.iinc 3 1, 3) := by decide +kernel
theorem dX3_owes_46 : decode cX3_owes 46 = .ok (.goto (-42), 3) := by decide +kernel
theorem dX3_owes_49 : decode cX3_owes 49 = .ok (.iload_n 2, 1) := by decide +kernel
theorem dX3_owes_50 : decode cX3_owes 50 = .ok (.ireturn, 1) := by decide +kernel
theorem dX3_houseNow_0 : decode cX3_houseNow 0 = .ok (.iload_n 2, 1) := by decide +kernel
theorem dX3_houseNow_1 : decode cX3_houseNow 1 = .ok (.tableswitch 68 0 4 #[35, 42, 49, 55, 62], 35) := by decide +kernel
theorem dX3_houseNow_36 : decode cX3_houseNow 36 = .ok (.aload_n 0, 1) := by decide +kernel
theorem dX3_houseNow_37 : decode cX3_houseNow 37 = .ok (.getfield 7, 3) := by decide +kernel
theorem dX3_houseNow_40 : decode cX3_houseNow 40 = .ok (.iload_n 1, 1) := by decide +kernel
theorem dX3_houseNow_41 : decode cX3_houseNow 41 = .ok (.iaload, 1) := by decide +kernel
theorem dX3_houseNow_42 : decode cX3_houseNow 42 = .ok (.ireturn, 1) := by decide +kernel
theorem dX3_houseNow_43 : decode cX3_houseNow 43 = .ok (.aload_n 0, 1) := by decide +kernel
theorem dX3_houseNow_44 : decode cX3_houseNow 44 = .ok (.getfield 13, 3) := by decide +kernel
theorem dX3_houseNow_47 : decode cX3_houseNow 47 = .ok (.iload_n 1, 1) := by decide +kernel
theorem dX3_houseNow_48 : decode cX3_houseNow 48 = .ok (.iaload, 1) := by decide +kernel
theorem dX3_houseNow_49 : decode cX3_houseNow 49 = .ok (.ireturn, 1) := by decide +kernel
theorem dX3_houseNow_50 : decode cX3_houseNow 50 = .ok (.aload_n 0, 1) := by decide +kernel
theorem dX3_houseNow_51 : decode cX3_houseNow 51 = .ok (.iload_n 1, 1) := by decide +kernel
theorem dX3_houseNow_52 : decode cX3_houseNow 52 = .ok (.invokevirtual 107, 3) := by decide +kernel
theorem dX3_houseNow_55 : decode cX3_houseNow 55 = .ok (.ireturn, 1) := by decide +kernel
theorem dX3_houseNow_56 : decode cX3_houseNow 56 = .ok (.aload_n 0, 1) := by decide +kernel
theorem dX3_houseNow_57 : decode cX3_houseNow 57 = .ok (.getfield 16, 3) := by decide +kernel
theorem dX3_houseNow_60 : decode cX3_houseNow 60 = .ok (.iload_n 1, 1) := by decide +kernel
theorem dX3_houseNow_61 : decode cX3_houseNow 61 = .ok (.iaload, 1) := by decide +kernel
theorem dX3_houseNow_62 : decode cX3_houseNow 62 = .ok (.ireturn, 1) := by decide +kernel
theorem dX3_houseNow_63 : decode cX3_houseNow 63 = .ok (.aload_n 0, 1) := by decide +kernel
theorem dX3_houseNow_64 : decode cX3_houseNow 64 = .ok (.iload_n 1, 1) := by decide +kernel
theorem dX3_houseNow_65 : decode cX3_houseNow 65 = .ok (.invokevirtual 119, 3) := by decide +kernel
theorem dX3_houseNow_68 : decode cX3_houseNow 68 = .ok (.ireturn, 1) := by decide +kernel
theorem dX3_houseNow_69 : decode cX3_houseNow 69 = .ok (.aload_n 0, 1) := by decide +kernel
theorem dX3_houseNow_70 : decode cX3_houseNow 70 = .ok (.iload_n 1, 1) := by decide +kernel
theorem dX3_houseNow_71 : decode cX3_houseNow 71 = .ok (.invokevirtual 110, 3) := by decide +kernel
theorem dX3_houseNow_74 : decode cX3_houseNow 74 = .ok (.ireturn, 1) := by decide +kernel
theorem dX3_about_0 : decode cX3_about 0 = .ok (.aload_n 0, 1) := by decide +kernel
theorem dX3_about_1 : decode cX3_about 1 = .ok (.iload_n 1, 1) := by decide +kernel
theorem dX3_about_2 : decode cX3_about 2 = .ok (.invokevirtual 122, 3) := by decide +kernel
theorem dX3_about_5 : decode cX3_about 5 = .ok (.ifCond .ne 8, 3) := by decide +kernel
theorem dX3_about_8 : decode cX3_about 8 = .ok (.bipush (-101), 2) := by decide +kernel
theorem dX3_about_10 : decode cX3_about 10 = .ok (.goto 23, 3) := by decide +kernel
theorem dX3_about_13 : decode cX3_about 13 = .ok (.iload_n 2, 1) := by decide +kernel
theorem dX3_about_14 : decode cX3_about 14 = .ok (.iconst 0, 1) := by decide +kernel
theorem dX3_about_15 : decode cX3_about 15 = .ok (.iconst 5, 1) := by decide +kernel
theorem dX3_about_16 : decode cX3_about 16 = .ok (.invokestatic 62, 3) := by decide +kernel
theorem dX3_about_19 : decode cX3_about 19 = .ok (.ifCond .eq 12, 3) := by decide +kernel
theorem dX3_about_22 : decode cX3_about 22 = .ok (.aload_n 0, 1) := by decide +kernel
theorem dX3_about_23 : decode cX3_about 23 = .ok (.iload_n 1, 1) := by decide +kernel
theorem dX3_about_24 : decode cX3_about 24 = .ok (.iload_n 2, 1) := by decide +kernel
theorem dX3_about_25 : decode cX3_about 25 = .ok (.invokevirtual 125, 3) := by decide +kernel
theorem dX3_about_28 : decode cX3_about 28 = .ok (.goto 5, 3) := by decide +kernel
theorem dX3_about_31 : decode cX3_about 31 = .ok (.bipush (-102), 2) := by decide +kernel
theorem dX3_about_33 : decode cX3_about 33 = .ok (.ireturn, 1) := by decide +kernel
theorem dX3_as_0 : decode cX3_as 0 = .ok (.aload_n 0, 1) := by decide +kernel
theorem dX3_as_1 : decode cX3_as 1 = .ok (.iload_n 1, 1) := by decide +kernel
theorem dX3_as_2 : decode cX3_as 2 = .ok (.invokevirtual 122, 3) := by decide +kernel
theorem dX3_as_5 : decode cX3_as 5 = .ok (.ifCond .ne 6, 3) := by decide +kernel
theorem dX3_as_8 : decode cX3_as 8 = .ok (.bipush (-101), 2) := by decide +kernel
theorem dX3_as_10 : decode cX3_as 10 = .ok (.ireturn, 1) := by decide +kernel
theorem dX3_as_11 : decode cX3_as 11 = .ok (.iload_n 2, 1) := by decide +kernel
theorem dX3_as_12 : decode cX3_as 12 = .ok (.iconst 0, 1) := by decide +kernel
theorem dX3_as_13 : decode cX3_as 13 = .ok (.iconst 4, 1) := by decide +kernel
theorem dX3_as_14 : decode cX3_as 14 = .ok (.invokestatic 62, 3) := by decide +kernel
theorem dX3_as_17 : decode cX3_as 17 = .ok (.ifCond .ne 6, 3) := by decide +kernel
theorem dX3_as_20 : decode cX3_as 20 = .ok (.bipush (-102), 2) := by decide +kernel
theorem dX3_as_22 : decode cX3_as 22 = .ok (.ireturn, 1) := by decide +kernel
theorem dX3_as_23 : decode cX3_as 23 = .ok (.aload_n 0, 1) := by decide +kernel
theorem dX3_as_24 : decode cX3_as 24 = .ok (.getfield 7, 3) := by decide +kernel
theorem dX3_as_27 : decode cX3_as 27 = .ok (.iload_n 1, 1) := by decide +kernel
theorem dX3_as_28 : decode cX3_as 28 = .ok (.iaload, 1) := by decide +kernel
theorem dX3_as_29 : decode cX3_as 29 = .ok (.istore_n 3, 1) := by decide +kernel
theorem dX3_as_30 : decode cX3_as 30 = .ok (.iload_n 2, 1) := by decide +kernel
theorem dX3_as_31 : decode cX3_as 31 = .ok (.ifCond .eq 18, 3) := by decide +kernel
theorem dX3_as_34 : decode cX3_as 34 = .ok (.iload_n 3, 1) := by decide +kernel
theorem dX3_as_35 : decode cX3_as 35 = .ok (.iload_n 2, 1) := by decide +kernel
theorem dX3_as_36 : decode cX3_as 36 = .ok (.if_icmp .eq 13, 3) := by decide +kernel
theorem dX3_as_39 : decode cX3_as 39 = .ok (.iload_n 2, 1) := by decide +kernel
theorem dX3_as_40 : decode cX3_as 40 = .ok (.iconst 2, 1) := by decide +kernel
theorem dX3_as_41 : decode cX3_as 41 = .ok (.if_icmp .ne 12, 3) := by decide +kernel
theorem dX3_as_44 : decode cX3_as 44 = .ok (.iload_n 3, 1) := by decide +kernel
theorem dX3_as_45 : decode cX3_as 45 = .ok (.iconst 4, 1) := by decide +kernel
theorem dX3_as_46 : decode cX3_as 46 = .ok (.if_icmp .ne 7, 3) := by decide +kernel
theorem dX3_as_49 : decode cX3_as 49 = .ok (.iload_n 1, 1) := by decide +kernel
theorem dX3_as_50 : decode cX3_as 50 = .ok (.goto 4, 3) := by decide +kernel
theorem dX3_as_53 : decode cX3_as 53 = .ok (.iconst (-1), 1) := by decide +kernel
theorem dX3_as_54 : decode cX3_as 54 = .ok (.ireturn, 1) := by decide +kernel
theorem dX3_birth_0 : decode cX3_birth 0 = .ok (.aload_n 0, 1) := by decide +kernel
theorem dX3_birth_1 : decode cX3_birth 1 = .ok (.iload_n 1, 1) := by decide +kernel
theorem dX3_birth_2 : decode cX3_birth 2 = .ok (.invokevirtual 122, 3) := by decide +kernel
theorem dX3_birth_5 : decode cX3_birth 5 = .ok (.ifCond .ne 6, 3) := by decide +kernel
theorem dX3_birth_8 : decode cX3_birth 8 = .ok (.bipush (-101), 2) := by decide +kernel
theorem dX3_birth_10 : decode cX3_birth 10 = .ok (.ireturn, 1) := by decide +kernel
theorem dX3_birth_11 : decode cX3_birth 11 = .ok (.aload_n 0, 1) := by decide +kernel
theorem dX3_birth_12 : decode cX3_birth 12 = .ok (.iload_n 1, 1) := by decide +kernel
theorem dX3_birth_13 : decode cX3_birth 13 = .ok (.invokevirtual 128, 3) := by decide +kernel
theorem dX3_birth_16 : decode cX3_birth 16 = .ok (.ifCond .ne 6, 3) := by decide +kernel
theorem dX3_birth_19 : decode cX3_birth 19 = .ok (.bipush (-103), 2) := by decide +kernel
theorem dX3_birth_21 : decode cX3_birth 21 = .ok (.ireturn, 1) := by decide +kernel
theorem dX3_birth_22 : decode cX3_birth 22 = .ok (.aload_n 0, 1) := by decide +kernel
theorem dX3_birth_23 : decode cX3_birth 23 = .ok (.iload_n 1, 1) := by decide +kernel
theorem dX3_birth_24 : decode cX3_birth 24 = .ok (.invokevirtual 131, 3) := by decide +kernel
theorem dX3_birth_27 : decode cX3_birth 27 = .ok (.aload_n 0, 1) := by decide +kernel
theorem dX3_birth_28 : decode cX3_birth 28 = .ok (.getfield 16, 3) := by decide +kernel
theorem dX3_birth_31 : decode cX3_birth 31 = .ok (.iload_n 1, 1) := by decide +kernel
theorem dX3_birth_32 : decode cX3_birth 32 = .ok (.dup2, 1) := by decide +kernel
theorem dX3_birth_33 : decode cX3_birth 33 = .ok (.iaload, 1) := by decide +kernel
theorem dX3_birth_34 : decode cX3_birth 34 = .ok (.iconst 1, 1) := by decide +kernel
theorem dX3_birth_35 : decode cX3_birth 35 = .ok (.iadd, 1) := by decide +kernel
theorem dX3_birth_36 : decode cX3_birth 36 = .ok (.iastore, 1) := by decide +kernel
theorem dX3_birth_37 : decode cX3_birth 37 = .ok (.aload_n 0, 1) := by decide +kernel
theorem dX3_birth_38 : decode cX3_birth 38 = .ok (.dup, 1) := by decide +kernel
theorem dX3_birth_39 : decode cX3_birth 39 = .ok (.getfield 91, 3) := by decide +kernel
theorem dX3_birth_42 : decode cX3_birth 42 = .ok (.iconst 1, 1) := by decide +kernel
theorem dX3_birth_43 : decode cX3_birth 43 = .ok (.iadd, 1) := by decide +kernel
theorem dX3_birth_44 : decode cX3_birth 44 = .ok (.putfield 91, 3) := by decide +kernel
theorem dX3_birth_47 : decode cX3_birth 47 = .ok (.aload_n 0, 1) := by decide +kernel
theorem dX3_birth_48 : decode cX3_birth 48 = .ok (.iload_n 1, 1) := by decide +kernel
theorem dX3_birth_49 : decode cX3_birth 49 = .ok (.invokevirtual 104, 3) := by decide +kernel
theorem dX3_birth_52 : decode cX3_birth 52 = .ok (.ifCond .eq 17, 3) := by decide +kernel
theorem dX3_birth_55 : decode cX3_birth 55 = .ok (.aload_n 0, 1) := by decide +kernel
theorem dX3_birth_56 : decode cX3_birth 56 = .ok (.getfield 16, 3) := by decide +kernel
theorem dX3_birth_59 : decode cX3_birth 59 = .ok (.iload_n 1, 1) := by decide +kernel
theorem dX3_birth_60 : decode cX3_birth 60 = .ok (.iconst 1, 1) := by decide +kernel
theorem dX3_birth_61 : decode cX3_birth 61 = .ok (.iadd, 1) := by decide +kernel
theorem dX3_birth_62 : decode cX3_birth 62 = .ok (.dup2, 1) := by decide +kernel
theorem dX3_birth_63 : decode cX3_birth 63 = .ok (.iaload, 1) := by decide +kernel
theorem dX3_birth_64 : decode cX3_birth 64 = .ok (.iconst 1, 1) := by decide +kernel
theorem dX3_birth_65 : decode cX3_birth 65 = .ok (.iadd, 1) := by decide +kernel
theorem dX3_birth_66 : decode cX3_birth 66 = .ok (.iastore, 1) := by decide +kernel
theorem dX3_birth_67 : decode cX3_birth 67 = .ok (.iconst 2, 1) := by decide +kernel
theorem dX3_birth_68 : decode cX3_birth 68 = .ok (.ireturn, 1) := by decide +kernel
theorem dX3_birth_69 : decode cX3_birth 69 = .ok (.iconst 1, 1) := by decide +kernel
theorem dX3_birth_70 : decode cX3_birth 70 = .ok (.ireturn, 1) := by decide +kernel
theorem dX3_day_0 : decode cX3_day 0 = .ok (.aload_n 0, 1) := by decide +kernel
theorem dX3_day_1 : decode cX3_day 1 = .ok (.getfield 82, 3) := by decide +kernel
theorem dX3_day_4 : decode cX3_day 4 = .ok (.ifCond .ne 6, 3) := by decide +kernel
theorem dX3_day_7 : decode cX3_day 7 = .ok (.bipush (-103), 2) := by decide +kernel
theorem dX3_day_9 : decode cX3_day 9 = .ok (.ireturn, 1) := by decide +kernel
theorem dX3_day_10 : decode cX3_day 10 = .ok (.aload_n 0, 1) := by decide +kernel
theorem dX3_day_11 : decode cX3_day 11 = .ok (.getfield 88, 3) := by decide +kernel
theorem dX3_day_14 : decode cX3_day 14 = .ok (.bipush 30, 2) := by decide +kernel
theorem dX3_day_16 : decode cX3_day 16 = .ok (.if_icmp .ne 6, 3) := by decide +kernel
theorem dX3_day_19 : decode cX3_day 19 = .ok (.bipush (-104), 2) := by decide +kernel
theorem dX3_day_21 : decode cX3_day 21 = .ok (.ireturn, 1) := by decide +kernel
theorem dX3_day_22 : decode cX3_day 22 = .ok (.iconst 0, 1) := by decide +kernel
theorem dX3_day_23 : decode cX3_day 23 = .ok (.istore_n 1, 1) := by decide +kernel
theorem dX3_day_24 : decode cX3_day 24 = .ok (.iload_n 1, 1) := by decide +kernel
theorem dX3_day_25 : decode cX3_day 25 = .ok (.aload_n 0, 1) := by decide +kernel
theorem dX3_day_26 : decode cX3_day 26 = .ok (.getfield 82, 3) := by decide +kernel
theorem dX3_day_29 : decode cX3_day 29 = .ok (.if_icmp .ge 29, 3) := by decide +kernel
theorem dX3_day_32 : decode cX3_day 32 = .ok (.aload_n 0, 1) := by decide +kernel
theorem dX3_day_33 : decode cX3_day 33 = .ok (.getfield 19, 3) := by decide +kernel
theorem dX3_day_36 : decode cX3_day 36 = .ok (.bipush 6, 2) := by decide +kernel
theorem dX3_day_38 : decode cX3_day 38 = .ok (.aload_n 0, 1) := by decide +kernel
theorem dX3_day_39 : decode cX3_day 39 = .ok (.getfield 88, 3) := by decide +kernel
theorem dX3_day_42 : decode cX3_day 42 = .ok (.imul, 1) := by decide +kernel
theorem dX3_day_43 : decode cX3_day 43 = .ok (.iload_n 1, 1) := by decide +kernel
theorem dX3_day_44 : decode cX3_day 44 = .ok (.iadd, 1) := by decide +kernel
theorem dX3_day_45 : decode cX3_day 45 = .ok (.aload_n 0, 1) := by decide +kernel
theorem dX3_day_46 : decode cX3_day 46 = .ok (.getfield 13, 3) := by decide +kernel
theorem dX3_day_49 : decode cX3_day 49 = .ok (.iload_n 1, 1) := by decide +kernel
theorem dX3_day_50 : decode cX3_day 50 = .ok (.iaload, 1) := by decide +kernel
theorem dX3_day_51 : decode cX3_day 51 = .ok (.iastore, 1) := by decide +kernel
theorem dX3_day_52 : decode cX3_day 52 = .ok (.iinc 1 1, 3) := by decide +kernel
theorem dX3_day_55 : decode cX3_day 55 = .ok (.goto (-31), 3) := by decide +kernel
theorem dX3_day_58 : decode cX3_day 58 = .ok (.aload_n 0, 1) := by decide +kernel
theorem dX3_day_59 : decode cX3_day 59 = .ok (.invokevirtual 135, 3) := by decide +kernel
theorem dX3_day_62 : decode cX3_day 62 = .ok (.aload_n 0, 1) := by decide +kernel
theorem dX3_day_63 : decode cX3_day 63 = .ok (.dup, 1) := by decide +kernel
theorem dX3_day_64 : decode cX3_day 64 = .ok (.getfield 88, 3) := by decide +kernel
theorem dX3_day_67 : decode cX3_day 67 = .ok (.iconst 1, 1) := by decide +kernel
theorem dX3_day_68 : decode cX3_day 68 = .ok (.iadd, 1) := by decide +kernel
theorem dX3_day_69 : decode cX3_day 69 = .ok (.putfield 88, 3) := by decide +kernel
theorem dX3_day_72 : decode cX3_day 72 = .ok (.aload_n 0, 1) := by decide +kernel
theorem dX3_day_73 : decode cX3_day 73 = .ok (.getfield 88, 3) := by decide +kernel
theorem dX3_day_76 : decode cX3_day 76 = .ok (.ireturn, 1) := by decide +kernel
theorem dX3_then_0 : decode cX3_then 0 = .ok (.aload_n 0, 1) := by decide +kernel
theorem dX3_then_1 : decode cX3_then 1 = .ok (.iload_n 1, 1) := by decide +kernel
theorem dX3_then_2 : decode cX3_then 2 = .ok (.invokevirtual 122, 3) := by decide +kernel
theorem dX3_then_5 : decode cX3_then 5 = .ok (.ifCond .eq 20, 3) := by decide +kernel
theorem dX3_then_8 : decode cX3_then 8 = .ok (.aload_n 0, 1) := by decide +kernel
theorem dX3_then_9 : decode cX3_then 9 = .ok (.iload_n 2, 1) := by decide +kernel
theorem dX3_then_10 : decode cX3_then 10 = .ok (.invokevirtual 138, 3) := by decide +kernel
theorem dX3_then_13 : decode cX3_then 13 = .ok (.ifCond .eq 12, 3) := by decide +kernel
theorem dX3_then_16 : decode cX3_then 16 = .ok (.aload_n 0, 1) := by decide +kernel
theorem dX3_then_17 : decode cX3_then 17 = .ok (.iload_n 1, 1) := by decide +kernel
theorem dX3_then_18 : decode cX3_then 18 = .ok (.iload_n 2, 1) := by decide +kernel
theorem dX3_then_19 : decode cX3_then 19 = .ok (.invokevirtual 113, 3) := by decide +kernel
theorem dX3_then_22 : decode cX3_then 22 = .ok (.goto 5, 3) := by decide +kernel
theorem dX3_then_25 : decode cX3_then 25 = .ok (.bipush (-101), 2) := by decide +kernel
theorem dX3_then_27 : decode cX3_then 27 = .ok (.ireturn, 1) := by decide +kernel
theorem dX3_goesTo_0 : decode cX3_goesTo 0 = .ok (.aload_n 0, 1) := by decide +kernel
theorem dX3_goesTo_1 : decode cX3_goesTo 1 = .ok (.iload_n 2, 1) := by decide +kernel
theorem dX3_goesTo_2 : decode cX3_goesTo 2 = .ok (.invokevirtual 138, 3) := by decide +kernel
theorem dX3_goesTo_5 : decode cX3_goesTo 5 = .ok (.ifCond .eq 12, 3) := by decide +kernel
theorem dX3_goesTo_8 : decode cX3_goesTo 8 = .ok (.aload_n 0, 1) := by decide +kernel
theorem dX3_goesTo_9 : decode cX3_goesTo 9 = .ok (.iload_n 1, 1) := by decide +kernel
theorem dX3_goesTo_10 : decode cX3_goesTo 10 = .ok (.iload_n 2, 1) := by decide +kernel
theorem dX3_goesTo_11 : decode cX3_goesTo 11 = .ok (.invokevirtual 116, 3) := by decide +kernel
theorem dX3_goesTo_14 : decode cX3_goesTo 14 = .ok (.goto 5, 3) := by decide +kernel
theorem dX3_goesTo_17 : decode cX3_goesTo 17 = .ok (.bipush (-101), 2) := by decide +kernel
theorem dX3_goesTo_19 : decode cX3_goesTo 19 = .ok (.ireturn, 1) := by decide +kernel
theorem dX3_walk_0 : decode cX3_walk 0 = .ok (.aload_n 0, 1) := by decide +kernel
theorem dX3_walk_1 : decode cX3_walk 1 = .ok (.getfield 82, 3) := by decide +kernel
theorem dX3_walk_4 : decode cX3_walk 4 = .ok (.ifCond .ne 8, 3) := by decide +kernel
theorem dX3_walk_7 : decode cX3_walk 7 = .ok (.bipush (-103), 2) := by decide +kernel
theorem dX3_walk_9 : decode cX3_walk 9 = .ok (.goto 7, 3) := by decide +kernel
theorem dX3_walk_12 : decode cX3_walk 12 = .ok (.aload_n 0, 1) := by decide +kernel
theorem dX3_walk_13 : decode cX3_walk 13 = .ok (.invokevirtual 141, 3) := by decide +kernel
theorem dX3_walk_16 : decode cX3_walk 16 = .ok (.ireturn, 1) := by decide +kernel
theorem dX3_debt_0 : decode cX3_debt 0 = .ok (.iload_n 1, 1) := by decide +kernel
theorem dX3_debt_1 : decode cX3_debt 1 = .ok (.iconst 1, 1) := by decide +kernel
theorem dX3_debt_2 : decode cX3_debt 2 = .ok (.bipush 9, 2) := by decide +kernel
theorem dX3_debt_4 : decode cX3_debt 4 = .ok (.invokestatic 62, 3) := by decide +kernel
theorem dX3_debt_7 : decode cX3_debt 7 = .ok (.ifCond .eq 13, 3) := by decide +kernel
theorem dX3_debt_10 : decode cX3_debt 10 = .ok (.iload_n 2, 1) := by decide +kernel
theorem dX3_debt_11 : decode cX3_debt 11 = .ok (.iconst 0, 1) := by decide +kernel
theorem dX3_debt_12 : decode cX3_debt 12 = .ok (.bipush 99, 2) := by decide +kernel
theorem dX3_debt_14 : decode cX3_debt 14 = .ok (.invokestatic 62, 3) := by decide +kernel
theorem dX3_debt_17 : decode cX3_debt 17 = .ok (.ifCond .ne 6, 3) := by decide +kernel
theorem dX3_debt_20 : decode cX3_debt 20 = .ok (.bipush (-102), 2) := by decide +kernel
theorem dX3_debt_22 : decode cX3_debt 22 = .ok (.ireturn, 1) := by decide +kernel
theorem dX3_debt_23 : decode cX3_debt 23 = .ok (.aload_n 0, 1) := by decide +kernel
theorem dX3_debt_24 : decode cX3_debt 24 = .ok (.getfield 82, 3) := by decide +kernel
theorem dX3_debt_27 : decode cX3_debt 27 = .ok (.ifCond .ne 6, 3) := by decide +kernel
theorem dX3_debt_30 : decode cX3_debt 30 = .ok (.bipush (-103), 2) := by decide +kernel
theorem dX3_debt_32 : decode cX3_debt 32 = .ok (.ireturn, 1) := by decide +kernel
theorem dX3_debt_33 : decode cX3_debt 33 = .ok (.aload_n 0, 1) := by decide +kernel
theorem dX3_debt_34 : decode cX3_debt 34 = .ok (.getfield 94, 3) := by decide +kernel
theorem dX3_debt_37 : decode cX3_debt 37 = .ok (.bipush 6, 2) := by decide +kernel
theorem dX3_debt_39 : decode cX3_debt 39 = .ok (.if_icmp .ne 6, 3) := by decide +kernel
theorem dX3_debt_42 : decode cX3_debt 42 = .ok (.bipush (-104), 2) := by decide +kernel
theorem dX3_debt_44 : decode cX3_debt 44 = .ok (.ireturn, 1) := by decide +kernel
theorem dX3_debt_45 : decode cX3_debt 45 = .ok (.aload_n 0, 1) := by decide +kernel
theorem dX3_debt_46 : decode cX3_debt 46 = .ok (.getfield 22, 3) := by decide +kernel
theorem dX3_debt_49 : decode cX3_debt 49 = .ok (.aload_n 0, 1) := by decide +kernel
theorem dX3_debt_50 : decode cX3_debt 50 = .ok (.getfield 94, 3) := by decide +kernel
theorem dX3_debt_53 : decode cX3_debt 53 = .ok (.iload_n 1, 1) := by decide +kernel
theorem dX3_debt_54 : decode cX3_debt 54 = .ok (.iastore, 1) := by decide +kernel
theorem dX3_debt_55 : decode cX3_debt 55 = .ok (.aload_n 0, 1) := by decide +kernel
theorem dX3_debt_56 : decode cX3_debt 56 = .ok (.getfield 25, 3) := by decide +kernel
theorem dX3_debt_59 : decode cX3_debt 59 = .ok (.aload_n 0, 1) := by decide +kernel
theorem dX3_debt_60 : decode cX3_debt 60 = .ok (.getfield 94, 3) := by decide +kernel
theorem dX3_debt_63 : decode cX3_debt 63 = .ok (.iload_n 2, 1) := by decide +kernel
theorem dX3_debt_64 : decode cX3_debt 64 = .ok (.iastore, 1) := by decide +kernel
theorem dX3_debt_65 : decode cX3_debt 65 = .ok (.aload_n 0, 1) := by decide +kernel
theorem dX3_debt_66 : decode cX3_debt 66 = .ok (.dup, 1) := by decide +kernel
theorem dX3_debt_67 : decode cX3_debt 67 = .ok (.getfield 94, 3) := by decide +kernel
theorem dX3_debt_70 : decode cX3_debt 70 = .ok (.iconst 1, 1) := by decide +kernel
theorem dX3_debt_71 : decode cX3_debt 71 = .ok (.iadd, 1) := by decide +kernel
theorem dX3_debt_72 : decode cX3_debt 72 = .ok (.putfield 94, 3) := by decide +kernel
theorem dX3_debt_75 : decode cX3_debt 75 = .ok (.aload_n 0, 1) := by decide +kernel
theorem dX3_debt_76 : decode cX3_debt 76 = .ok (.getfield 94, 3) := by decide +kernel
theorem dX3_debt_79 : decode cX3_debt 79 = .ok (.ireturn, 1) := by decide +kernel
theorem dX3_pay_0 : decode cX3_pay 0 = .ok (.iconst 0, 1) := by decide +kernel
theorem dX3_pay_1 : decode cX3_pay 1 = .ok (.istore_n 1, 1) := by decide +kernel
theorem dX3_pay_2 : decode cX3_pay 2 = .ok (.iconst 0, 1) := by decide +kernel
theorem dX3_pay_3 : decode cX3_pay 3 = .ok (.istore_n 2, 1) := by decide +kernel
theorem dX3_pay_4 : decode cX3_pay 4 = .ok (.iload_n 2, 1) := by decide +kernel
theorem dX3_pay_5 : decode cX3_pay 5 = .ok (.aload_n 0, 1) := by decide +kernel
theorem dX3_pay_6 : decode cX3_pay 6 = .ok (.getfield 94, 3) := by decide +kernel
theorem dX3_pay_9 : decode cX3_pay 9 = .ok (.if_icmp .ge 18, 3) := by decide +kernel
theorem dX3_pay_12 : decode cX3_pay 12 = .ok (.iload_n 1, 1) := by decide +kernel
theorem dX3_pay_13 : decode cX3_pay 13 = .ok (.aload_n 0, 1) := by decide +kernel
theorem dX3_pay_14 : decode cX3_pay 14 = .ok (.getfield 22, 3) := by decide +kernel
theorem dX3_pay_17 : decode cX3_pay 17 = .ok (.iload_n 2, 1) := by decide +kernel
theorem dX3_pay_18 : decode cX3_pay 18 = .ok (.iaload, 1) := by decide +kernel
theorem dX3_pay_19 : decode cX3_pay 19 = .ok (.iadd, 1) := by decide +kernel
theorem dX3_pay_20 : decode cX3_pay 20 = .ok (.istore_n 1, 1) := by decide +kernel
theorem dX3_pay_21 : decode cX3_pay 21 = .ok (.iinc 2 1, 3) := by decide +kernel
theorem dX3_pay_24 : decode cX3_pay 24 = .ok (.goto (-20), 3) := by decide +kernel
theorem dX3_pay_27 : decode cX3_pay 27 = .ok (.aload_n 0, 1) := by decide +kernel
theorem dX3_pay_28 : decode cX3_pay 28 = .ok (.iconst 0, 1) := by decide +kernel
theorem dX3_pay_29 : decode cX3_pay 29 = .ok (.putfield 94, 3) := by decide +kernel
theorem dX3_pay_32 : decode cX3_pay 32 = .ok (.iload_n 1, 1) := by decide +kernel
theorem dX3_pay_33 : decode cX3_pay 33 = .ok (.ireturn, 1) := by decide +kernel
theorem dX3_save_0 : decode cX3_save 0 = .ok (.iconst 0, 1) := by decide +kernel
theorem dX3_save_1 : decode cX3_save 1 = .ok (.istore_n 1, 1) := by decide +kernel
theorem dX3_save_2 : decode cX3_save 2 = .ok (.iload_n 1, 1) := by decide +kernel
theorem dX3_save_3 : decode cX3_save 3 = .ok (.bipush 6, 2) := by decide +kernel
theorem dX3_save_5 : decode cX3_save 5 = .ok (.if_icmp .ge 21, 3) := by decide +kernel
theorem dX3_save_8 : decode cX3_save 8 = .ok (.aload_n 0, 1) := by decide +kernel
theorem dX3_save_9 : decode cX3_save 9 = .ok (.getfield 38, 3) := by decide +kernel
theorem dX3_save_12 : decode cX3_save 12 = .ok (.iload_n 1, 1) := by decide +kernel
theorem dX3_save_13 : decode cX3_save 13 = .ok (.aload_n 0, 1) := by decide +kernel
theorem dX3_save_14 : decode cX3_save 14 = .ok (.getfield 13, 3) := by decide +kernel
theorem dX3_save_17 : decode cX3_save 17 = .ok (.iload_n 1, 1) := by decide +kernel
theorem dX3_save_18 : decode cX3_save 18 = .ok (.iaload, 1) := by decide +kernel
theorem dX3_save_19 : decode cX3_save 19 = .ok (.iastore, 1) := by decide +kernel
theorem dX3_save_20 : decode cX3_save 20 = .ok (.iinc 1 1, 3) := by decide +kernel
theorem dX3_save_23 : decode cX3_save 23 = .ok (.goto (-21), 3) := by decide +kernel
theorem dX3_save_26 : decode cX3_save 26 = .ok (.return_, 1) := by decide +kernel
theorem dX3_load_0 : decode cX3_load 0 = .ok (.iconst 0, 1) := by decide +kernel
theorem dX3_load_1 : decode cX3_load 1 = .ok (.istore_n 1, 1) := by decide +kernel
theorem dX3_load_2 : decode cX3_load 2 = .ok (.iload_n 1, 1) := by decide +kernel
theorem dX3_load_3 : decode cX3_load 3 = .ok (.bipush 6, 2) := by decide +kernel
theorem dX3_load_5 : decode cX3_load 5 = .ok (.if_icmp .ge 21, 3) := by decide +kernel
theorem dX3_load_8 : decode cX3_load 8 = .ok (.aload_n 0, 1) := by decide +kernel
theorem dX3_load_9 : decode cX3_load 9 = .ok (.getfield 13, 3) := by decide +kernel
theorem dX3_load_12 : decode cX3_load 12 = .ok (.iload_n 1, 1) := by decide +kernel
theorem dX3_load_13 : decode cX3_load 13 = .ok (.aload_n 0, 1) := by decide +kernel
theorem dX3_load_14 : decode cX3_load 14 = .ok (.getfield 38, 3) := by decide +kernel
theorem dX3_load_17 : decode cX3_load 17 = .ok (.iload_n 1, 1) := by decide +kernel
theorem dX3_load_18 : decode cX3_load 18 = .ok (.iaload, 1) := by decide +kernel
theorem dX3_load_19 : decode cX3_load 19 = .ok (.iastore, 1) := by decide +kernel
theorem dX3_load_20 : decode cX3_load 20 = .ok (.iinc 1 1, 3) := by decide +kernel
theorem dX3_load_23 : decode cX3_load 23 = .ok (.goto (-21), 3) := by decide +kernel
theorem dX3_load_26 : decode cX3_load 26 = .ok (.return_, 1) := by decide +kernel
theorem dX3_numbersAll_0 : decode cX3_numbersAll 0 = .ok (.iconst 0, 1) := by decide +kernel
theorem dX3_numbersAll_1 : decode cX3_numbersAll 1 = .ok (.istore_n 1, 1) := by decide +kernel
theorem dX3_numbersAll_2 : decode cX3_numbersAll 2 = .ok (.iconst 0, 1) := by decide +kernel
theorem dX3_numbersAll_3 : decode cX3_numbersAll 3 = .ok (.istore_n 2, 1) := by decide +kernel
theorem dX3_numbersAll_4 : decode cX3_numbersAll 4 = .ok (.iload_n 2, 1) := by decide +kernel
theorem dX3_numbersAll_5 : decode cX3_numbersAll 5 = .ok (.aload_n 0, 1) := by decide +kernel
theorem dX3_numbersAll_6 : decode cX3_numbersAll 6 = .ok (.getfield 82, 3) := by decide +kernel
theorem dX3_numbersAll_9 : decode cX3_numbersAll 9 = .ok (.if_icmp .ge 17, 3) := by decide +kernel
theorem dX3_numbersAll_12 : decode cX3_numbersAll 12 = .ok (.iload_n 1, 1) := by decide +kernel
theorem dX3_numbersAll_13 : decode cX3_numbersAll 13 = .ok (.aload_n 0, 1) := by decide +kernel
theorem dX3_numbersAll_14 : decode cX3_numbersAll 14 = .ok (.iload_n 2, 1) := by decide +kernel
theorem dX3_numbersAll_15 : decode cX3_numbersAll 15 = .ok (.invokevirtual 107, 3) := by decide +kernel
theorem dX3_numbersAll_18 : decode cX3_numbersAll 18 = .ok (.iadd, 1) := by decide +kernel
theorem dX3_numbersAll_19 : decode cX3_numbersAll 19 = .ok (.istore_n 1, 1) := by decide +kernel
theorem dX3_numbersAll_20 : decode cX3_numbersAll 20 = .ok (.iinc 2 1, 3) := by decide +kernel
theorem dX3_numbersAll_23 : decode cX3_numbersAll 23 = .ok (.goto (-19), 3) := by decide +kernel
theorem dX3_numbersAll_26 : decode cX3_numbersAll 26 = .ok (.iload_n 1, 1) := by decide +kernel
theorem dX3_numbersAll_27 : decode cX3_numbersAll 27 = .ok (.ireturn, 1) := by decide +kernel
theorem dX3_numbersBy_0 : decode cX3_numbersBy 0 = .ok (.iconst 1, 1) := by decide +kernel
theorem dX3_numbersBy_1 : decode cX3_numbersBy 1 = .ok (.istore_n 2, 1) := by decide +kernel
theorem dX3_numbersBy_2 : decode cX3_numbersBy 2 = .ok (.iconst 0, 1) := by decide +kernel
theorem dX3_numbersBy_3 : decode cX3_numbersBy 3 = .ok (.istore_n 3, 1) := by decide +kernel
theorem dX3_numbersBy_4 : decode cX3_numbersBy 4 = .ok (.iload_n 3, 1) := by decide +kernel
theorem dX3_numbersBy_5 : decode cX3_numbersBy 5 = .ok (.aload_n 0, 1) := by decide +kernel
theorem dX3_numbersBy_6 : decode cX3_numbersBy 6 = .ok (.getfield 82, 3) := by decide +kernel
theorem dX3_numbersBy_9 : decode cX3_numbersBy 9 = .ok (.if_icmp .ge 40, 3) := by decide +kernel
theorem dX3_numbersBy_12 : decode cX3_numbersBy 12 = .ok (.iload_n 1, 1) := by decide +kernel
theorem dX3_numbersBy_13 : decode cX3_numbersBy 13 = .ok (.iload_n 3, 1) := by decide +kernel
theorem dX3_numbersBy_14 : decode cX3_numbersBy 14 = .ok (.invokestatic 144, 3) := by decide +kernel
theorem dX3_numbersBy_17 : decode cX3_numbersBy 17 = .ok (.ifCond .eq 26, 3) := by decide +kernel
theorem dX3_numbersBy_20 : decode cX3_numbersBy 20 = .ok (.iload_n 2, 1) := by decide +kernel
theorem dX3_numbersBy_21 : decode cX3_numbersBy 21 = .ok (.ifCond .eq 15, 3) := by decide +kernel
theorem dX3_numbersBy_24 : decode cX3_numbersBy 24 = .ok (.aload_n 0, 1) := by decide +kernel
theorem dX3_numbersBy_25 : decode cX3_numbersBy 25 = .ok (.iload_n 3, 1) := by decide +kernel
theorem dX3_numbersBy_26 : decode cX3_numbersBy 26 = .ok (.invokevirtual 128, 3) := by decide +kernel
theorem dX3_numbersBy_29 : decode cX3_numbersBy 29 = .ok (.ifCond .eq 7, 3) := by decide +kernel
theorem dX3_numbersBy_32 : decode cX3_numbersBy 32 = .ok (.iconst 1, 1) := by decide +kernel
theorem dX3_numbersBy_33 : decode cX3_numbersBy 33 = .ok (.goto 4, 3) := by decide +kernel
theorem dX3_numbersBy_36 : decode cX3_numbersBy 36 = .ok (.iconst 0, 1) := by decide +kernel
theorem dX3_numbersBy_37 : decode cX3_numbersBy 37 = .ok (.istore_n 2, 1) := by decide +kernel
theorem dX3_numbersBy_38 : decode cX3_numbersBy 38 = .ok (.aload_n 0, 1) := by decide +kernel
theorem dX3_numbersBy_39 : decode cX3_numbersBy 39 = .ok (.iload_n 3, 1) := by decide +kernel
theorem dX3_numbersBy_40 : decode cX3_numbersBy 40 = .ok (.invokevirtual 131, 3) := by decide +kernel
theorem dX3_numbersBy_43 : decode cX3_numbersBy 43 = .ok (.iinc 3 1, 3) := by decide +kernel
theorem dX3_numbersBy_46 : decode cX3_numbersBy 46 = .ok (.goto (-42), 3) := by decide +kernel
theorem dX3_numbersBy_49 : decode cX3_numbersBy 49 = .ok (.aload_n 0, 1) := by decide +kernel
theorem dX3_numbersBy_50 : decode cX3_numbersBy 50 = .ok (.invokevirtual 148, 3) := by decide +kernel
theorem dX3_numbersBy_53 : decode cX3_numbersBy 53 = .ok (.istore_n 3, 1) := by decide +kernel
theorem dX3_numbersBy_54 : decode cX3_numbersBy 54 = .ok (.aload_n 0, 1) := by decide +kernel
theorem dX3_numbersBy_55 : decode cX3_numbersBy 55 = .ok (.invokevirtual 151, 3) := by decide +kernel
theorem dX3_numbersBy_58 : decode cX3_numbersBy 58 = .ok (.iload_n 2, 1) := by decide +kernel
theorem dX3_numbersBy_59 : decode cX3_numbersBy 59 = .ok (.ifCond .eq 7, 3) := by decide +kernel
theorem dX3_numbersBy_62 : decode cX3_numbersBy 62 = .ok (.iload_n 3, 1) := by decide +kernel
theorem dX3_numbersBy_63 : decode cX3_numbersBy 63 = .ok (.goto 5, 3) := by decide +kernel
theorem dX3_numbersBy_66 : decode cX3_numbersBy 66 = .ok (.ldc 154, 2) := by decide +kernel
theorem dX3_numbersBy_68 : decode cX3_numbersBy 68 = .ok (.ireturn, 1) := by decide +kernel
theorem dX3_cheapNow_0 : decode cX3_cheapNow 0 = .ok (.aload_n 0, 1) := by decide +kernel
theorem dX3_cheapNow_1 : decode cX3_cheapNow 1 = .ok (.invokevirtual 155, 3) := by decide +kernel
theorem dX3_cheapNow_4 : decode cX3_cheapNow 4 = .ok (.iconst (-1), 1) := by decide +kernel
theorem dX3_cheapNow_5 : decode cX3_cheapNow 5 = .ok (.istore_n 3, 1) := by decide +kernel
theorem dX3_cheapNow_6 : decode cX3_cheapNow 6 = .ok (.iconst 0, 1) := by decide +kernel
theorem dX3_cheapNow_7 : decode cX3_cheapNow 7 = .ok (.istore 4, 2) := by decide +kernel
theorem dX3_cheapNow_9 : decode cX3_cheapNow 9 = .ok (.iload 4, 2) := by decide +kernel
theorem dX3_cheapNow_11 : decode cX3_cheapNow 11 = .ok (.iconst 1, 1) := by decide +kernel
theorem dX3_cheapNow_12 : decode cX3_cheapNow 12 = .ok (.aload_n 0, 1) := by decide +kernel
theorem dX3_cheapNow_13 : decode cX3_cheapNow 13 = .ok (.getfield 82, 3) := by decide +kernel
theorem dX3_cheapNow_16 : decode cX3_cheapNow 16 = .ok (.ishl, 1) := by decide +kernel
theorem dX3_cheapNow_17 : decode cX3_cheapNow 17 = .ok (.if_icmp .ge 55, 3) := by decide +kernel
theorem dX3_cheapNow_20 : decode cX3_cheapNow 20 = .ok (.iload_n 3, 1) := by decide +kernel
theorem dX3_cheapNow_21 : decode cX3_cheapNow 21 = .ok (.iconst (-1), 1) := by decide +kernel
theorem dX3_cheapNow_22 : decode cX3_cheapNow 22 = .ok (.if_icmp .eq 15, 3) := by decide +kernel
theorem dX3_cheapNow_25 : decode cX3_cheapNow 25 = .ok (.iload 4, 2) := by decide +kernel
theorem dX3_cheapNow_27 : decode cX3_cheapNow 27 = .ok (.invokestatic 158, 3) := by decide +kernel
theorem dX3_cheapNow_30 : decode cX3_cheapNow 30 = .ok (.iload_n 3, 1) := by decide +kernel
theorem dX3_cheapNow_31 : decode cX3_cheapNow 31 = .ok (.invokestatic 158, 3) := by decide +kernel
theorem dX3_cheapNow_34 : decode cX3_cheapNow 34 = .ok (.if_icmp .ge 7, 3) := by decide +kernel
theorem dX3_cheapNow_37 : decode cX3_cheapNow 37 = .ok (.iconst 1, 1) := by decide +kernel
theorem dX3_cheapNow_38 : decode cX3_cheapNow 38 = .ok (.goto 4, 3) := by decide +kernel
theorem dX3_cheapNow_41 : decode cX3_cheapNow 41 = .ok (.iconst 0, 1) := by decide +kernel
theorem dX3_cheapNow_42 : decode cX3_cheapNow 42 = .ok (.istore 5, 2) := by decide +kernel
theorem dX3_cheapNow_44 : decode cX3_cheapNow 44 = .ok (.iload 5, 2) := by decide +kernel
theorem dX3_cheapNow_46 : decode cX3_cheapNow 46 = .ok (.ifCond .eq 18, 3) := by decide +kernel
theorem dX3_cheapNow_49 : decode cX3_cheapNow 49 = .ok (.aload_n 0, 1) := by decide +kernel
theorem dX3_cheapNow_50 : decode cX3_cheapNow 50 = .ok (.iload 4, 2) := by decide +kernel
theorem dX3_cheapNow_52 : decode cX3_cheapNow 52 = .ok (.invokevirtual 161, 3) := by decide +kernel
theorem dX3_cheapNow_55 : decode cX3_cheapNow 55 = .ok (.iload_n 1, 1) := by decide +kernel
theorem dX3_cheapNow_56 : decode cX3_cheapNow 56 = .ok (.if_icmp .gt 8, 3) := by decide +kernel
theorem dX3_cheapNow_59 : decode cX3_cheapNow 59 = .ok (.iload 4, 2) := by decide +kernel
theorem dX3_cheapNow_61 : decode cX3_cheapNow 61 = .ok (.goto 4, 3) := by decide +kernel
theorem dX3_cheapNow_64 : decode cX3_cheapNow 64 = .ok (.iload_n 3, 1) := by decide +kernel
theorem dX3_cheapNow_65 : decode cX3_cheapNow 65 = .ok (.istore_n 3, 1) := by decide +kernel
theorem dX3_cheapNow_66 : decode cX3_cheapNow 66 = .ok (.iinc 4 1, 3) := by decide +kernel
theorem dX3_cheapNow_69 : decode cX3_cheapNow 69 = .ok (.goto (-60), 3) := by decide +kernel
theorem dX3_cheapNow_72 : decode cX3_cheapNow 72 = .ok (.iload_n 3, 1) := by decide +kernel
theorem dX3_cheapNow_73 : decode cX3_cheapNow 73 = .ok (.iconst (-1), 1) := by decide +kernel
theorem dX3_cheapNow_74 : decode cX3_cheapNow 74 = .ok (.if_icmp .eq 8, 3) := by decide +kernel
theorem dX3_cheapNow_77 : decode cX3_cheapNow 77 = .ok (.iload_n 2, 1) := by decide +kernel
theorem dX3_cheapNow_78 : decode cX3_cheapNow 78 = .ok (.iconst 1, 1) := by decide +kernel
theorem dX3_cheapNow_79 : decode cX3_cheapNow 79 = .ok (.if_icmp .ne 7, 3) := by decide +kernel
theorem dX3_cheapNow_82 : decode cX3_cheapNow 82 = .ok (.iload_n 3, 1) := by decide +kernel
theorem dX3_cheapNow_83 : decode cX3_cheapNow 83 = .ok (.goto 7, 3) := by decide +kernel
theorem dX3_cheapNow_86 : decode cX3_cheapNow 86 = .ok (.iload_n 3, 1) := by decide +kernel
theorem dX3_cheapNow_87 : decode cX3_cheapNow 87 = .ok (.invokestatic 158, 3) := by decide +kernel
theorem dX3_cheapNow_90 : decode cX3_cheapNow 90 = .ok (.ireturn, 1) := by decide +kernel
theorem dX3_cheap_0 : decode cX3_cheap 0 = .ok (.iload_n 1, 1) := by decide +kernel
theorem dX3_cheap_1 : decode cX3_cheap 1 = .ok (.iconst 0, 1) := by decide +kernel
theorem dX3_cheap_2 : decode cX3_cheap 2 = .ok (.sipush 400, 3) := by decide +kernel
theorem dX3_cheap_5 : decode cX3_cheap 5 = .ok (.invokestatic 62, 3) := by decide +kernel
theorem dX3_cheap_8 : decode cX3_cheap 8 = .ok (.ifCond .eq 12, 3) := by decide +kernel
theorem dX3_cheap_11 : decode cX3_cheap 11 = .ok (.iload_n 2, 1) := by decide +kernel
theorem dX3_cheap_12 : decode cX3_cheap 12 = .ok (.iconst 0, 1) := by decide +kernel
theorem dX3_cheap_13 : decode cX3_cheap 13 = .ok (.iconst 1, 1) := by decide +kernel
theorem dX3_cheap_14 : decode cX3_cheap 14 = .ok (.invokestatic 62, 3) := by decide +kernel
theorem dX3_cheap_17 : decode cX3_cheap 17 = .ok (.ifCond .ne 6, 3) := by decide +kernel
theorem dX3_cheap_20 : decode cX3_cheap 20 = .ok (.bipush (-102), 2) := by decide +kernel
theorem dX3_cheap_22 : decode cX3_cheap 22 = .ok (.ireturn, 1) := by decide +kernel
theorem dX3_cheap_23 : decode cX3_cheap 23 = .ok (.aload_n 0, 1) := by decide +kernel
theorem dX3_cheap_24 : decode cX3_cheap 24 = .ok (.getfield 82, 3) := by decide +kernel
theorem dX3_cheap_27 : decode cX3_cheap 27 = .ok (.ifCond .ne 8, 3) := by decide +kernel
theorem dX3_cheap_30 : decode cX3_cheap 30 = .ok (.bipush (-103), 2) := by decide +kernel
theorem dX3_cheap_32 : decode cX3_cheap 32 = .ok (.goto 9, 3) := by decide +kernel
theorem dX3_cheap_35 : decode cX3_cheap 35 = .ok (.aload_n 0, 1) := by decide +kernel
theorem dX3_cheap_36 : decode cX3_cheap 36 = .ok (.iload_n 1, 1) := by decide +kernel
theorem dX3_cheap_37 : decode cX3_cheap 37 = .ok (.iload_n 2, 1) := by decide +kernel
theorem dX3_cheap_38 : decode cX3_cheap 38 = .ok (.invokevirtual 164, 3) := by decide +kernel
theorem dX3_cheap_41 : decode cX3_cheap 41 = .ok (.ireturn, 1) := by decide +kernel
theorem dX3_whenNow_0 : decode cX3_whenNow 0 = .ok (.iconst 0, 1) := by decide +kernel
theorem dX3_whenNow_1 : decode cX3_whenNow 1 = .ok (.istore_n 3, 1) := by decide +kernel
theorem dX3_whenNow_2 : decode cX3_whenNow 2 = .ok (.iload_n 3, 1) := by decide +kernel
theorem dX3_whenNow_3 : decode cX3_whenNow 3 = .ok (.bipush 99, 2) := by decide +kernel
theorem dX3_whenNow_5 : decode cX3_whenNow 5 = .ok (.if_icmp .gt 47, 3) := by decide +kernel
theorem dX3_whenNow_8 : decode cX3_whenNow 8 = .ok (.aload_n 0, 1) := by decide +kernel
theorem dX3_whenNow_9 : decode cX3_whenNow 9 = .ok (.iload_n 1, 1) := by decide +kernel
theorem dX3_whenNow_10 : decode cX3_whenNow 10 = .ok (.aload_n 0, 1) := by decide +kernel
theorem dX3_whenNow_11 : decode cX3_whenNow 11 = .ok (.getfield 7, 3) := by decide +kernel
theorem dX3_whenNow_14 : decode cX3_whenNow 14 = .ok (.iload_n 1, 1) := by decide +kernel
theorem dX3_whenNow_15 : decode cX3_whenNow 15 = .ok (.iaload, 1) := by decide +kernel
theorem dX3_whenNow_16 : decode cX3_whenNow 16 = .ok (.iconst 4, 1) := by decide +kernel
theorem dX3_whenNow_17 : decode cX3_whenNow 17 = .ok (.if_icmp .ne 12, 3) := by decide +kernel
theorem dX3_whenNow_20 : decode cX3_whenNow 20 = .ok (.aload_n 0, 1) := by decide +kernel
theorem dX3_whenNow_21 : decode cX3_whenNow 21 = .ok (.getfield 13, 3) := by decide +kernel
theorem dX3_whenNow_24 : decode cX3_whenNow 24 = .ok (.iload_n 1, 1) := by decide +kernel
theorem dX3_whenNow_25 : decode cX3_whenNow 25 = .ok (.iaload, 1) := by decide +kernel
theorem dX3_whenNow_26 : decode cX3_whenNow 26 = .ok (.goto 11, 3) := by decide +kernel
theorem dX3_whenNow_29 : decode cX3_whenNow 29 = .ok (.aload_n 0, 1) := by decide +kernel
theorem dX3_whenNow_30 : decode cX3_whenNow 30 = .ok (.getfield 13, 3) := by decide +kernel
theorem dX3_whenNow_33 : decode cX3_whenNow 33 = .ok (.iload_n 1, 1) := by decide +kernel
theorem dX3_whenNow_34 : decode cX3_whenNow 34 = .ok (.iaload, 1) := by decide +kernel
theorem dX3_whenNow_35 : decode cX3_whenNow 35 = .ok (.iload_n 3, 1) := by decide +kernel
theorem dX3_whenNow_36 : decode cX3_whenNow 36 = .ok (.iadd, 1) := by decide +kernel
theorem dX3_whenNow_37 : decode cX3_whenNow 37 = .ok (.invokevirtual 100, 3) := by decide +kernel
theorem dX3_whenNow_40 : decode cX3_whenNow 40 = .ok (.iload_n 2, 1) := by decide +kernel
theorem dX3_whenNow_41 : decode cX3_whenNow 41 = .ok (.if_icmp .ne 5, 3) := by decide +kernel
theorem dX3_whenNow_44 : decode cX3_whenNow 44 = .ok (.iload_n 3, 1) := by decide +kernel
theorem dX3_whenNow_45 : decode cX3_whenNow 45 = .ok (.ireturn, 1) := by decide +kernel
theorem dX3_whenNow_46 : decode cX3_whenNow 46 = .ok (.iinc 3 1, 3) := by decide +kernel
theorem dX3_whenNow_49 : decode cX3_whenNow 49 = .ok (.goto (-47), 3) := by decide +kernel
theorem dX3_whenNow_52 : decode cX3_whenNow 52 = .ok (.iconst (-1), 1) := by decide +kernel
theorem dX3_whenNow_53 : decode cX3_whenNow 53 = .ok (.ireturn, 1) := by decide +kernel
theorem dX3_when_0 : decode cX3_when 0 = .ok (.aload_n 0, 1) := by decide +kernel
theorem dX3_when_1 : decode cX3_when 1 = .ok (.iload_n 1, 1) := by decide +kernel
theorem dX3_when_2 : decode cX3_when 2 = .ok (.invokevirtual 122, 3) := by decide +kernel
theorem dX3_when_5 : decode cX3_when 5 = .ok (.ifCond .eq 12, 3) := by decide +kernel
theorem dX3_when_8 : decode cX3_when 8 = .ok (.aload_n 0, 1) := by decide +kernel
theorem dX3_when_9 : decode cX3_when 9 = .ok (.iload_n 1, 1) := by decide +kernel
theorem dX3_when_10 : decode cX3_when 10 = .ok (.iload_n 2, 1) := by decide +kernel
theorem dX3_when_11 : decode cX3_when 11 = .ok (.invokevirtual 167, 3) := by decide +kernel
theorem dX3_when_14 : decode cX3_when 14 = .ok (.goto 5, 3) := by decide +kernel
theorem dX3_when_17 : decode cX3_when 17 = .ok (.bipush (-101), 2) := by decide +kernel
theorem dX3_when_19 : decode cX3_when 19 = .ok (.ireturn, 1) := by decide +kernel
theorem dX3_hear_0 : decode cX3_hear 0 = .ok (.aload_n 0, 1) := by decide +kernel
theorem dX3_hear_1 : decode cX3_hear 1 = .ok (.iload_n 1, 1) := by decide +kernel
theorem dX3_hear_2 : decode cX3_hear 2 = .ok (.invokevirtual 122, 3) := by decide +kernel
theorem dX3_hear_5 : decode cX3_hear 5 = .ok (.ifCond .ne 6, 3) := by decide +kernel
theorem dX3_hear_8 : decode cX3_hear 8 = .ok (.bipush (-101), 2) := by decide +kernel
theorem dX3_hear_10 : decode cX3_hear 10 = .ok (.ireturn, 1) := by decide +kernel
theorem dX3_hear_11 : decode cX3_hear 11 = .ok (.iload_n 2, 1) := by decide +kernel
theorem dX3_hear_12 : decode cX3_hear 12 = .ok (.iconst 0, 1) := by decide +kernel
theorem dX3_hear_13 : decode cX3_hear 13 = .ok (.bipush 99, 2) := by decide +kernel
theorem dX3_hear_15 : decode cX3_hear 15 = .ok (.invokestatic 62, 3) := by decide +kernel
theorem dX3_hear_18 : decode cX3_hear 18 = .ok (.ifCond .ne 6, 3) := by decide +kernel
theorem dX3_hear_21 : decode cX3_hear 21 = .ok (.bipush (-102), 2) := by decide +kernel
theorem dX3_hear_23 : decode cX3_hear 23 = .ok (.ireturn, 1) := by decide +kernel
theorem dX3_hear_24 : decode cX3_hear 24 = .ok (.aload_n 0, 1) := by decide +kernel
theorem dX3_hear_25 : decode cX3_hear 25 = .ok (.getfield 97, 3) := by decide +kernel
theorem dX3_hear_28 : decode cX3_hear 28 = .ok (.bipush 6, 2) := by decide +kernel
theorem dX3_hear_30 : decode cX3_hear 30 = .ok (.if_icmp .ne 6, 3) := by decide +kernel
theorem dX3_hear_33 : decode cX3_hear 33 = .ok (.bipush (-104), 2) := by decide +kernel
theorem dX3_hear_35 : decode cX3_hear 35 = .ok (.ireturn, 1) := by decide +kernel
theorem dX3_hear_36 : decode cX3_hear 36 = .ok (.aload_n 0, 1) := by decide +kernel
theorem dX3_hear_37 : decode cX3_hear 37 = .ok (.getfield 28, 3) := by decide +kernel
theorem dX3_hear_40 : decode cX3_hear 40 = .ok (.aload_n 0, 1) := by decide +kernel
theorem dX3_hear_41 : decode cX3_hear 41 = .ok (.getfield 97, 3) := by decide +kernel
theorem dX3_hear_44 : decode cX3_hear 44 = .ok (.iload_n 1, 1) := by decide +kernel
theorem dX3_hear_45 : decode cX3_hear 45 = .ok (.iastore, 1) := by decide +kernel
theorem dX3_hear_46 : decode cX3_hear 46 = .ok (.aload_n 0, 1) := by decide +kernel
theorem dX3_hear_47 : decode cX3_hear 47 = .ok (.getfield 31, 3) := by decide +kernel
theorem dX3_hear_50 : decode cX3_hear 50 = .ok (.aload_n 0, 1) := by decide +kernel
theorem dX3_hear_51 : decode cX3_hear 51 = .ok (.getfield 97, 3) := by decide +kernel
theorem dX3_hear_54 : decode cX3_hear 54 = .ok (.iload_n 2, 1) := by decide +kernel
theorem dX3_hear_55 : decode cX3_hear 55 = .ok (.iastore, 1) := by decide +kernel
theorem dX3_hear_56 : decode cX3_hear 56 = .ok (.aload_n 0, 1) := by decide +kernel
theorem dX3_hear_57 : decode cX3_hear 57 = .ok (.dup, 1) := by decide +kernel
theorem dX3_hear_58 : decode cX3_hear 58 = .ok (.getfield 97, 3) := by decide +kernel
theorem dX3_hear_61 : decode cX3_hear 61 = .ok (.iconst 1, 1) := by decide +kernel
theorem dX3_hear_62 : decode cX3_hear 62 = .ok (.iadd, 1) := by decide +kernel
theorem dX3_hear_63 : decode cX3_hear 63 = .ok (.putfield 97, 3) := by decide +kernel
theorem dX3_hear_66 : decode cX3_hear 66 = .ok (.aload_n 0, 1) := by decide +kernel
theorem dX3_hear_67 : decode cX3_hear 67 = .ok (.getfield 97, 3) := by decide +kernel
theorem dX3_hear_70 : decode cX3_hear 70 = .ok (.ireturn, 1) := by decide +kernel
theorem dX3_forget_0 : decode cX3_forget 0 = .ok (.aload_n 0, 1) := by decide +kernel
theorem dX3_forget_1 : decode cX3_forget 1 = .ok (.getfield 97, 3) := by decide +kernel
theorem dX3_forget_4 : decode cX3_forget 4 = .ok (.istore_n 1, 1) := by decide +kernel
theorem dX3_forget_5 : decode cX3_forget 5 = .ok (.aload_n 0, 1) := by decide +kernel
theorem dX3_forget_6 : decode cX3_forget 6 = .ok (.iconst 0, 1) := by decide +kernel
theorem dX3_forget_7 : decode cX3_forget 7 = .ok (.putfield 97, 3) := by decide +kernel
theorem dX3_forget_10 : decode cX3_forget 10 = .ok (.iload_n 1, 1) := by decide +kernel
theorem dX3_forget_11 : decode cX3_forget 11 = .ok (.ireturn, 1) := by decide +kernel
theorem dX3_isHeard_0 : decode cX3_isHeard 0 = .ok (.iconst 1, 1) := by decide +kernel
theorem dX3_isHeard_1 : decode cX3_isHeard 1 = .ok (.istore_n 2, 1) := by decide +kernel
theorem dX3_isHeard_2 : decode cX3_isHeard 2 = .ok (.iconst 0, 1) := by decide +kernel
theorem dX3_isHeard_3 : decode cX3_isHeard 3 = .ok (.istore_n 3, 1) := by decide +kernel
theorem dX3_isHeard_4 : decode cX3_isHeard 4 = .ok (.iload_n 3, 1) := by decide +kernel
theorem dX3_isHeard_5 : decode cX3_isHeard 5 = .ok (.aload_n 0, 1) := by decide +kernel
theorem dX3_isHeard_6 : decode cX3_isHeard 6 = .ok (.getfield 97, 3) := by decide +kernel
theorem dX3_isHeard_9 : decode cX3_isHeard 9 = .ok (.if_icmp .ge 39, 3) := by decide +kernel
theorem dX3_isHeard_12 : decode cX3_isHeard 12 = .ok (.iload_n 2, 1) := by decide +kernel
theorem dX3_isHeard_13 : decode cX3_isHeard 13 = .ok (.ifCond .eq 27, 3) := by decide +kernel
theorem dX3_isHeard_16 : decode cX3_isHeard 16 = .ok (.aload_n 0, 1) := by decide +kernel
theorem dX3_isHeard_17 : decode cX3_isHeard 17 = .ok (.aload_n 0, 1) := by decide +kernel
theorem dX3_isHeard_18 : decode cX3_isHeard 18 = .ok (.getfield 28, 3) := by decide +kernel
theorem dX3_isHeard_21 : decode cX3_isHeard 21 = .ok (.iload_n 3, 1) := by decide +kernel
theorem dX3_isHeard_22 : decode cX3_isHeard 22 = .ok (.iaload, 1) := by decide +kernel
theorem dX3_isHeard_23 : decode cX3_isHeard 23 = .ok (.iload_n 1, 1) := by decide +kernel
theorem dX3_isHeard_24 : decode cX3_isHeard 24 = .ok (.invokevirtual 113, 3) := by decide +kernel
theorem dX3_isHeard_27 : decode cX3_isHeard 27 = .ok (.aload_n 0, 1) := by decide +kernel
theorem dX3_isHeard_28 : decode cX3_isHeard 28 = .ok (.getfield 31, 3) := by decide +kernel
theorem dX3_isHeard_31 : decode cX3_isHeard 31 = .ok (.iload_n 3, 1) := by decide +kernel
theorem dX3_isHeard_32 : decode cX3_isHeard 32 = .ok (.iaload, 1) := by decide +kernel
theorem dX3_isHeard_33 : decode cX3_isHeard 33 = .ok (.if_icmp .ne 7, 3) := by decide +kernel
theorem dX3_isHeard_36 : decode cX3_isHeard 36 = .ok (.iconst 1, 1) := by decide +kernel
theorem dX3_isHeard_37 : decode cX3_isHeard 37 = .ok (.goto 4, 3) := by decide +kernel
theorem dX3_isHeard_40 : decode cX3_isHeard 40 = .ok (.iconst 0, 1) := by decide +kernel
theorem dX3_isHeard_41 : decode cX3_isHeard 41 = .ok (.istore_n 2, 1) := by decide +kernel
theorem dX3_isHeard_42 : decode cX3_isHeard 42 = .ok (.iinc 3 1, 3) := by decide +kernel
theorem dX3_isHeard_45 : decode cX3_isHeard 45 = .ok (.goto (-41), 3) := by decide +kernel
theorem dX3_isHeard_48 : decode cX3_isHeard 48 = .ok (.iload_n 2, 1) := by decide +kernel
theorem dX3_isHeard_49 : decode cX3_isHeard 49 = .ok (.ireturn, 1) := by decide +kernel
theorem dX3_daysNow_0 : decode cX3_daysNow 0 = .ok (.iconst 0, 1) := by decide +kernel
theorem dX3_daysNow_1 : decode cX3_daysNow 1 = .ok (.istore_n 2, 1) := by decide +kernel
theorem dX3_daysNow_2 : decode cX3_daysNow 2 = .ok (.iconst (-1), 1) := by decide +kernel
theorem dX3_daysNow_3 : decode cX3_daysNow 3 = .ok (.istore_n 3, 1) := by decide +kernel
theorem dX3_daysNow_4 : decode cX3_daysNow 4 = .ok (.aload_n 0, 1) := by decide +kernel
theorem dX3_daysNow_5 : decode cX3_daysNow 5 = .ok (.getfield 88, 3) := by decide +kernel
theorem dX3_daysNow_8 : decode cX3_daysNow 8 = .ok (.istore 4, 2) := by decide +kernel
theorem dX3_daysNow_10 : decode cX3_daysNow 10 = .ok (.iload 4, 2) := by decide +kernel
theorem dX3_daysNow_12 : decode cX3_daysNow 12 = .ok (.ifCond .lt 42, 3) := by decide +kernel
theorem dX3_daysNow_15 : decode cX3_daysNow 15 = .ok (.aload_n 0, 1) := by decide +kernel
theorem dX3_daysNow_16 : decode cX3_daysNow 16 = .ok (.iload 4, 2) := by decide +kernel
theorem dX3_daysNow_18 : decode cX3_daysNow 18 = .ok (.invokevirtual 170, 3) := by decide +kernel
theorem dX3_daysNow_21 : decode cX3_daysNow 21 = .ok (.istore 5, 2) := by decide +kernel
theorem dX3_daysNow_23 : decode cX3_daysNow 23 = .ok (.iload_n 2, 1) := by decide +kernel
theorem dX3_daysNow_24 : decode cX3_daysNow 24 = .ok (.iload 5, 2) := by decide +kernel
theorem dX3_daysNow_26 : decode cX3_daysNow 26 = .ok (.ifCond .eq 7, 3) := by decide +kernel
theorem dX3_daysNow_29 : decode cX3_daysNow 29 = .ok (.iconst 1, 1) := by decide +kernel
theorem dX3_daysNow_30 : decode cX3_daysNow 30 = .ok (.goto 4, 3) := by decide +kernel
theorem dX3_daysNow_33 : decode cX3_daysNow 33 = .ok (.iconst 0, 1) := by decide +kernel
theorem dX3_daysNow_34 : decode cX3_daysNow 34 = .ok (.iadd, 1) := by decide +kernel
theorem dX3_daysNow_35 : decode cX3_daysNow 35 = .ok (.istore_n 2, 1) := by decide +kernel
theorem dX3_daysNow_36 : decode cX3_daysNow 36 = .ok (.iload 5, 2) := by decide +kernel
theorem dX3_daysNow_38 : decode cX3_daysNow 38 = .ok (.ifCond .eq 8, 3) := by decide +kernel
theorem dX3_daysNow_41 : decode cX3_daysNow 41 = .ok (.iload 4, 2) := by decide +kernel
theorem dX3_daysNow_43 : decode cX3_daysNow 43 = .ok (.goto 4, 3) := by decide +kernel
theorem dX3_daysNow_46 : decode cX3_daysNow 46 = .ok (.iload_n 3, 1) := by decide +kernel
theorem dX3_daysNow_47 : decode cX3_daysNow 47 = .ok (.istore_n 3, 1) := by decide +kernel
theorem dX3_daysNow_48 : decode cX3_daysNow 48 = .ok (.iinc 4 (-1), 3) := by decide +kernel
theorem dX3_daysNow_51 : decode cX3_daysNow 51 = .ok (.goto (-41), 3) := by decide +kernel
theorem dX3_daysNow_54 : decode cX3_daysNow 54 = .ok (.iload_n 1, 1) := by decide +kernel
theorem dX3_daysNow_55 : decode cX3_daysNow 55 = .ok (.ifCond .ne 7, 3) := by decide +kernel
theorem dX3_daysNow_58 : decode cX3_daysNow 58 = .ok (.iload_n 2, 1) := by decide +kernel
theorem dX3_daysNow_59 : decode cX3_daysNow 59 = .ok (.goto 4, 3) := by decide +kernel
theorem dX3_daysNow_62 : decode cX3_daysNow 62 = .ok (.iload_n 3, 1) := by decide +kernel
theorem dX3_daysNow_63 : decode cX3_daysNow 63 = .ok (.ireturn, 1) := by decide +kernel
theorem dX3_days_0 : decode cX3_days 0 = .ok (.iload_n 1, 1) := by decide +kernel
theorem dX3_days_1 : decode cX3_days 1 = .ok (.iconst 0, 1) := by decide +kernel
theorem dX3_days_2 : decode cX3_days 2 = .ok (.iconst 1, 1) := by decide +kernel
theorem dX3_days_3 : decode cX3_days 3 = .ok (.invokestatic 62, 3) := by decide +kernel
theorem dX3_days_6 : decode cX3_days 6 = .ok (.ifCond .ne 6, 3) := by decide +kernel
theorem dX3_days_9 : decode cX3_days 9 = .ok (.bipush (-102), 2) := by decide +kernel
theorem dX3_days_11 : decode cX3_days 11 = .ok (.ireturn, 1) := by decide +kernel
theorem dX3_days_12 : decode cX3_days 12 = .ok (.aload_n 0, 1) := by decide +kernel
theorem dX3_days_13 : decode cX3_days 13 = .ok (.getfield 82, 3) := by decide +kernel
theorem dX3_days_16 : decode cX3_days 16 = .ok (.ifCond .ne 8, 3) := by decide +kernel
theorem dX3_days_19 : decode cX3_days 19 = .ok (.bipush (-103), 2) := by decide +kernel
theorem dX3_days_21 : decode cX3_days 21 = .ok (.goto 8, 3) := by decide +kernel
theorem dX3_days_24 : decode cX3_days 24 = .ok (.aload_n 0, 1) := by decide +kernel
theorem dX3_days_25 : decode cX3_days 25 = .ok (.iload_n 1, 1) := by decide +kernel
theorem dX3_days_26 : decode cX3_days 26 = .ok (.invokevirtual 173, 3) := by decide +kernel
theorem dX3_days_29 : decode cX3_days 29 = .ok (.ireturn, 1) := by decide +kernel
theorem dX3_worstOf_0 : decode cX3_worstOf 0 = .ok (.iconst 0, 1) := by decide +kernel
theorem dX3_worstOf_1 : decode cX3_worstOf 1 = .ok (.istore_n 2, 1) := by decide +kernel
theorem dX3_worstOf_2 : decode cX3_worstOf 2 = .ok (.iconst 0, 1) := by decide +kernel
theorem dX3_worstOf_3 : decode cX3_worstOf 3 = .ok (.istore_n 3, 1) := by decide +kernel
theorem dX3_worstOf_4 : decode cX3_worstOf 4 = .ok (.iload_n 3, 1) := by decide +kernel
theorem dX3_worstOf_5 : decode cX3_worstOf 5 = .ok (.aload_n 0, 1) := by decide +kernel
theorem dX3_worstOf_6 : decode cX3_worstOf 6 = .ok (.getfield 88, 3) := by decide +kernel
theorem dX3_worstOf_9 : decode cX3_worstOf 9 = .ok (.if_icmp .gt 86, 3) := by decide +kernel
theorem dX3_worstOf_12 : decode cX3_worstOf 12 = .ok (.iconst 0, 1) := by decide +kernel
theorem dX3_worstOf_13 : decode cX3_worstOf 13 = .ok (.istore 4, 2) := by decide +kernel
theorem dX3_worstOf_15 : decode cX3_worstOf 15 = .ok (.iconst 0, 1) := by decide +kernel
theorem dX3_worstOf_16 : decode cX3_worstOf 16 = .ok (.istore 5, 2) := by decide +kernel
theorem dX3_worstOf_18 : decode cX3_worstOf 18 = .ok (.iload 5, 2) := by decide +kernel
theorem dX3_worstOf_20 : decode cX3_worstOf 20 = .ok (.aload_n 0, 1) := by decide +kernel
theorem dX3_worstOf_21 : decode cX3_worstOf 21 = .ok (.getfield 88, 3) := by decide +kernel
theorem dX3_worstOf_24 : decode cX3_worstOf 24 = .ok (.if_icmp .gt 52, 3) := by decide +kernel
theorem dX3_worstOf_27 : decode cX3_worstOf 27 = .ok (.aload_n 0, 1) := by decide +kernel
theorem dX3_worstOf_28 : decode cX3_worstOf 28 = .ok (.iload_n 3, 1) := by decide +kernel
theorem dX3_worstOf_29 : decode cX3_worstOf 29 = .ok (.invokevirtual 170, 3) := by decide +kernel
theorem dX3_worstOf_32 : decode cX3_worstOf 32 = .ok (.ifCond .eq 44, 3) := by decide +kernel
theorem dX3_worstOf_35 : decode cX3_worstOf 35 = .ok (.iload 4, 2) := by decide +kernel
theorem dX3_worstOf_37 : decode cX3_worstOf 37 = .ok (.aload_n 0, 1) := by decide +kernel
theorem dX3_worstOf_38 : decode cX3_worstOf 38 = .ok (.iload 5, 2) := by decide +kernel
theorem dX3_worstOf_40 : decode cX3_worstOf 40 = .ok (.invokevirtual 170, 3) := by decide +kernel
theorem dX3_worstOf_43 : decode cX3_worstOf 43 = .ok (.ifCond .eq 23, 3) := by decide +kernel
theorem dX3_worstOf_46 : decode cX3_worstOf 46 = .ok (.aload_n 0, 1) := by decide +kernel
theorem dX3_worstOf_47 : decode cX3_worstOf 47 = .ok (.iload_n 1, 1) := by decide +kernel
theorem dX3_worstOf_48 : decode cX3_worstOf 48 = .ok (.iload_n 3, 1) := by decide +kernel
theorem dX3_worstOf_49 : decode cX3_worstOf 49 = .ok (.invokevirtual 113, 3) := by decide +kernel
theorem dX3_worstOf_52 : decode cX3_worstOf 52 = .ok (.aload_n 0, 1) := by decide +kernel
theorem dX3_worstOf_53 : decode cX3_worstOf 53 = .ok (.iload_n 1, 1) := by decide +kernel
theorem dX3_worstOf_54 : decode cX3_worstOf 54 = .ok (.iload 5, 2) := by decide +kernel
theorem dX3_worstOf_56 : decode cX3_worstOf 56 = .ok (.invokevirtual 113, 3) := by decide +kernel
theorem dX3_worstOf_59 : decode cX3_worstOf 59 = .ok (.if_icmp .ne 7, 3) := by decide +kernel
theorem dX3_worstOf_62 : decode cX3_worstOf 62 = .ok (.iconst 1, 1) := by decide +kernel
theorem dX3_worstOf_63 : decode cX3_worstOf 63 = .ok (.goto 4, 3) := by decide +kernel
theorem dX3_worstOf_66 : decode cX3_worstOf 66 = .ok (.iconst 0, 1) := by decide +kernel
theorem dX3_worstOf_67 : decode cX3_worstOf 67 = .ok (.iadd, 1) := by decide +kernel
theorem dX3_worstOf_68 : decode cX3_worstOf 68 = .ok (.istore 4, 2) := by decide +kernel
theorem dX3_worstOf_70 : decode cX3_worstOf 70 = .ok (.iinc 5 1, 3) := by decide +kernel
theorem dX3_worstOf_73 : decode cX3_worstOf 73 = .ok (.goto (-55), 3) := by decide +kernel
theorem dX3_worstOf_76 : decode cX3_worstOf 76 = .ok (.iload 4, 2) := by decide +kernel
theorem dX3_worstOf_78 : decode cX3_worstOf 78 = .ok (.iload_n 2, 1) := by decide +kernel
theorem dX3_worstOf_79 : decode cX3_worstOf 79 = .ok (.if_icmp .le 8, 3) := by decide +kernel
theorem dX3_worstOf_82 : decode cX3_worstOf 82 = .ok (.iload 4, 2) := by decide +kernel
theorem dX3_worstOf_84 : decode cX3_worstOf 84 = .ok (.goto 4, 3) := by decide +kernel
theorem dX3_worstOf_87 : decode cX3_worstOf 87 = .ok (.iload_n 2, 1) := by decide +kernel
theorem dX3_worstOf_88 : decode cX3_worstOf 88 = .ok (.istore_n 2, 1) := by decide +kernel
theorem dX3_worstOf_89 : decode cX3_worstOf 89 = .ok (.iinc 3 1, 3) := by decide +kernel
theorem dX3_worstOf_92 : decode cX3_worstOf 92 = .ok (.goto (-88), 3) := by decide +kernel
theorem dX3_worstOf_95 : decode cX3_worstOf 95 = .ok (.iload_n 2, 1) := by decide +kernel
theorem dX3_worstOf_96 : decode cX3_worstOf 96 = .ok (.ireturn, 1) := by decide +kernel
theorem dX3_askNow_0 : decode cX3_askNow 0 = .ok (.iconst (-1), 1) := by decide +kernel
theorem dX3_askNow_1 : decode cX3_askNow 1 = .ok (.istore_n 1, 1) := by decide +kernel
theorem dX3_askNow_2 : decode cX3_askNow 2 = .ok (.aload_n 0, 1) := by decide +kernel
theorem dX3_askNow_3 : decode cX3_askNow 3 = .ok (.iconst 0, 1) := by decide +kernel
theorem dX3_askNow_4 : decode cX3_askNow 4 = .ok (.invokevirtual 173, 3) := by decide +kernel
theorem dX3_askNow_7 : decode cX3_askNow 7 = .ok (.ifCond .ne 7, 3) := by decide +kernel
theorem dX3_askNow_10 : decode cX3_askNow 10 = .ok (.iconst 0, 1) := by decide +kernel
theorem dX3_askNow_11 : decode cX3_askNow 11 = .ok (.goto 5, 3) := by decide +kernel
theorem dX3_askNow_14 : decode cX3_askNow 14 = .ok (.ldc 154, 2) := by decide +kernel
theorem dX3_askNow_16 : decode cX3_askNow 16 = .ok (.istore_n 2, 1) := by decide +kernel
theorem dX3_askNow_17 : decode cX3_askNow 17 = .ok (.iconst 0, 1) := by decide +kernel
theorem dX3_askNow_18 : decode cX3_askNow 18 = .ok (.istore_n 3, 1) := by decide +kernel
theorem dX3_askNow_19 : decode cX3_askNow 19 = .ok (.iload_n 3, 1) := by decide +kernel
theorem dX3_askNow_20 : decode cX3_askNow 20 = .ok (.aload_n 0, 1) := by decide +kernel
theorem dX3_askNow_21 : decode cX3_askNow 21 = .ok (.getfield 82, 3) := by decide +kernel
theorem dX3_askNow_24 : decode cX3_askNow 24 = .ok (.if_icmp .ge 41, 3) := by decide +kernel
theorem dX3_askNow_27 : decode cX3_askNow 27 = .ok (.aload_n 0, 1) := by decide +kernel
theorem dX3_askNow_28 : decode cX3_askNow 28 = .ok (.iload_n 3, 1) := by decide +kernel
theorem dX3_askNow_29 : decode cX3_askNow 29 = .ok (.invokevirtual 176, 3) := by decide +kernel
theorem dX3_askNow_32 : decode cX3_askNow 32 = .ok (.istore 4, 2) := by decide +kernel
theorem dX3_askNow_34 : decode cX3_askNow 34 = .ok (.iload 4, 2) := by decide +kernel
theorem dX3_askNow_36 : decode cX3_askNow 36 = .ok (.iload_n 2, 1) := by decide +kernel
theorem dX3_askNow_37 : decode cX3_askNow 37 = .ok (.if_icmp .ge 7, 3) := by decide +kernel
theorem dX3_askNow_40 : decode cX3_askNow 40 = .ok (.iload_n 3, 1) := by decide +kernel
theorem dX3_askNow_41 : decode cX3_askNow 41 = .ok (.goto 4, 3) := by decide +kernel
theorem dX3_askNow_44 : decode cX3_askNow 44 = .ok (.iload_n 1, 1) := by decide +kernel
theorem dX3_askNow_45 : decode cX3_askNow 45 = .ok (.istore_n 1, 1) := by decide +kernel
theorem dX3_askNow_46 : decode cX3_askNow 46 = .ok (.iload 4, 2) := by decide +kernel
theorem dX3_askNow_48 : decode cX3_askNow 48 = .ok (.iload_n 2, 1) := by decide +kernel
theorem dX3_askNow_49 : decode cX3_askNow 49 = .ok (.if_icmp .ge 8, 3) := by decide +kernel
theorem dX3_askNow_52 : decode cX3_askNow 52 = .ok (.iload 4, 2) := by decide +kernel
theorem dX3_askNow_54 : decode cX3_askNow 54 = .ok (.goto 4, 3) := by decide +kernel
theorem dX3_askNow_57 : decode cX3_askNow 57 = .ok (.iload_n 2, 1) := by decide +kernel
theorem dX3_askNow_58 : decode cX3_askNow 58 = .ok (.istore_n 2, 1) := by decide +kernel
theorem dX3_askNow_59 : decode cX3_askNow 59 = .ok (.iinc 3 1, 3) := by decide +kernel
theorem dX3_askNow_62 : decode cX3_askNow 62 = .ok (.goto (-43), 3) := by decide +kernel
theorem dX3_askNow_65 : decode cX3_askNow 65 = .ok (.iload_n 1, 1) := by decide +kernel
theorem dX3_askNow_66 : decode cX3_askNow 66 = .ok (.ireturn, 1) := by decide +kernel
theorem dX3_ask_0 : decode cX3_ask 0 = .ok (.aload_n 0, 1) := by decide +kernel
theorem dX3_ask_1 : decode cX3_ask 1 = .ok (.getfield 82, 3) := by decide +kernel
theorem dX3_ask_4 : decode cX3_ask 4 = .ok (.ifCond .ne 8, 3) := by decide +kernel
theorem dX3_ask_7 : decode cX3_ask 7 = .ok (.bipush (-103), 2) := by decide +kernel
theorem dX3_ask_9 : decode cX3_ask 9 = .ok (.goto 7, 3) := by decide +kernel
theorem dX3_ask_12 : decode cX3_ask 12 = .ok (.aload_n 0, 1) := by decide +kernel
theorem dX3_ask_13 : decode cX3_ask 13 = .ok (.invokevirtual 179, 3) := by decide +kernel
theorem dX3_ask_16 : decode cX3_ask 16 = .ok (.ireturn, 1) := by decide +kernel
theorem dX3_draw_0 : decode cX3_draw 0 = .ok (.aload_n 0, 1) := by decide +kernel
theorem dX3_draw_1 : decode cX3_draw 1 = .ok (.ldc2_w 182, 3) := by decide +kernel
theorem dX3_draw_4 : decode cX3_draw 4 = .ok (.aload_n 0, 1) := by decide +kernel
theorem dX3_draw_5 : decode cX3_draw 5 = .ok (.getfield 184, 3) := by decide +kernel
theorem dX3_draw_8 : decode cX3_draw 8 = .ok (.lmul, 1) := by decide +kernel
theorem dX3_draw_9 : decode cX3_draw 9 = .ok (.ldc2_w 188, 3) := by decide +kernel
theorem dX3_draw_12 : decode cX3_draw 12 = .ok (.ladd, 1) := by decide +kernel
theorem dX3_draw_13 : decode cX3_draw 13 = .ok (.ldc2_w 190, 3) := by decide +kernel
theorem dX3_draw_16 : decode cX3_draw 16 = .ok (.land, 1) := by decide +kernel
theorem dX3_draw_17 : decode cX3_draw 17 = .ok (.putfield 184, 3) := by decide +kernel
theorem dX3_draw_20 : decode cX3_draw 20 = .ok (.aload_n 0, 1) := by decide +kernel
theorem dX3_draw_21 : decode cX3_draw 21 = .ok (.getfield 184, 3) := by decide +kernel
theorem dX3_draw_24 : decode cX3_draw 24 = .ok (.ldc2_w 192, 3) := by decide +kernel
theorem dX3_draw_27 : decode cX3_draw 27 = .ok (.ldiv, 1) := by decide +kernel
theorem dX3_draw_28 : decode cX3_draw 28 = .ok (.iload_n 1, 1) := by decide +kernel
theorem dX3_draw_29 : decode cX3_draw 29 = .ok (.i2l, 1) := by decide +kernel
theorem dX3_draw_30 : decode cX3_draw 30 = .ok (.lrem, 1) := by decide +kernel
theorem dX3_draw_31 : decode cX3_draw 31 = .ok (.l2i, 1) := by decide +kernel
theorem dX3_draw_32 : decode cX3_draw 32 = .ok (.ireturn, 1) := by decide +kernel
theorem dX3_yearsNow_0 : decode cX3_yearsNow 0 = .ok (.aload_n 0, 1) := by decide +kernel
theorem dX3_yearsNow_1 : decode cX3_yearsNow 1 = .ok (.invokevirtual 155, 3) := by decide +kernel
theorem dX3_yearsNow_4 : decode cX3_yearsNow 4 = .ok (.aload_n 0, 1) := by decide +kernel
theorem dX3_yearsNow_5 : decode cX3_yearsNow 5 = .ok (.iload_n 2, 1) := by decide +kernel
theorem dX3_yearsNow_6 : decode cX3_yearsNow 6 = .ok (.i2l, 1) := by decide +kernel
theorem dX3_yearsNow_7 : decode cX3_yearsNow 7 = .ok (.putfield 184, 3) := by decide +kernel
theorem dX3_yearsNow_10 : decode cX3_yearsNow 10 = .ok (.iconst 0, 1) := by decide +kernel
theorem dX3_yearsNow_11 : decode cX3_yearsNow 11 = .ok (.istore 4, 2) := by decide +kernel
theorem dX3_yearsNow_13 : decode cX3_yearsNow 13 = .ok (.iconst 0, 1) := by decide +kernel
theorem dX3_yearsNow_14 : decode cX3_yearsNow 14 = .ok (.istore 5, 2) := by decide +kernel
theorem dX3_yearsNow_16 : decode cX3_yearsNow 16 = .ok (.iload 5, 2) := by decide +kernel
theorem dX3_yearsNow_18 : decode cX3_yearsNow 18 = .ok (.iload_n 1, 1) := by decide +kernel
theorem dX3_yearsNow_19 : decode cX3_yearsNow 19 = .ok (.if_icmp .ge 47, 3) := by decide +kernel
theorem dX3_yearsNow_22 : decode cX3_yearsNow 22 = .ok (.aload_n 0, 1) := by decide +kernel
theorem dX3_yearsNow_23 : decode cX3_yearsNow 23 = .ok (.aload_n 0, 1) := by decide +kernel
theorem dX3_yearsNow_24 : decode cX3_yearsNow 24 = .ok (.getfield 82, 3) := by decide +kernel
theorem dX3_yearsNow_27 : decode cX3_yearsNow 27 = .ok (.invokevirtual 194, 3) := by decide +kernel
theorem dX3_yearsNow_30 : decode cX3_yearsNow 30 = .ok (.istore 6, 2) := by decide +kernel
theorem dX3_yearsNow_32 : decode cX3_yearsNow 32 = .ok (.aload_n 0, 1) := by decide +kernel
theorem dX3_yearsNow_33 : decode cX3_yearsNow 33 = .ok (.iload 6, 2) := by decide +kernel
theorem dX3_yearsNow_35 : decode cX3_yearsNow 35 = .ok (.invokevirtual 128, 3) := by decide +kernel
theorem dX3_yearsNow_38 : decode cX3_yearsNow 38 = .ok (.ifCond .eq 9, 3) := by decide +kernel
theorem dX3_yearsNow_41 : decode cX3_yearsNow 41 = .ok (.aload_n 0, 1) := by decide +kernel
theorem dX3_yearsNow_42 : decode cX3_yearsNow 42 = .ok (.iload 6, 2) := by decide +kernel
theorem dX3_yearsNow_44 : decode cX3_yearsNow 44 = .ok (.invokevirtual 131, 3) := by decide +kernel
theorem dX3_yearsNow_47 : decode cX3_yearsNow 47 = .ok (.iload 4, 2) := by decide +kernel
theorem dX3_yearsNow_49 : decode cX3_yearsNow 49 = .ok (.aload_n 0, 1) := by decide +kernel
theorem dX3_yearsNow_50 : decode cX3_yearsNow 50 = .ok (.invokevirtual 141, 3) := by decide +kernel
theorem dX3_yearsNow_53 : decode cX3_yearsNow 53 = .ok (.iadd, 1) := by decide +kernel
theorem dX3_yearsNow_54 : decode cX3_yearsNow 54 = .ok (.istore 4, 2) := by decide +kernel
theorem dX3_yearsNow_56 : decode cX3_yearsNow 56 = .ok (.aload_n 0, 1) := by decide +kernel
theorem dX3_yearsNow_57 : decode cX3_yearsNow 57 = .ok (.invokevirtual 135, 3) := by decide +kernel
theorem dX3_yearsNow_60 : decode cX3_yearsNow 60 = .ok (.iinc 5 1, 3) := by decide +kernel
theorem dX3_yearsNow_63 : decode cX3_yearsNow 63 = .ok (.goto (-47), 3) := by decide +kernel
theorem dX3_yearsNow_66 : decode cX3_yearsNow 66 = .ok (.aload_n 0, 1) := by decide +kernel
theorem dX3_yearsNow_67 : decode cX3_yearsNow 67 = .ok (.invokevirtual 148, 3) := by decide +kernel
theorem dX3_yearsNow_70 : decode cX3_yearsNow 70 = .ok (.istore 5, 2) := by decide +kernel
theorem dX3_yearsNow_72 : decode cX3_yearsNow 72 = .ok (.aload_n 0, 1) := by decide +kernel
theorem dX3_yearsNow_73 : decode cX3_yearsNow 73 = .ok (.invokevirtual 151, 3) := by decide +kernel
theorem dX3_yearsNow_76 : decode cX3_yearsNow 76 = .ok (.iload_n 3, 1) := by decide +kernel
theorem dX3_yearsNow_77 : decode cX3_yearsNow 77 = .ok (.ifCond .ne 8, 3) := by decide +kernel
theorem dX3_yearsNow_80 : decode cX3_yearsNow 80 = .ok (.iload 4, 2) := by decide +kernel
theorem dX3_yearsNow_82 : decode cX3_yearsNow 82 = .ok (.goto 18, 3) := by decide +kernel
theorem dX3_yearsNow_85 : decode cX3_yearsNow 85 = .ok (.iload_n 3, 1) := by decide +kernel
theorem dX3_yearsNow_86 : decode cX3_yearsNow 86 = .ok (.iconst 1, 1) := by decide +kernel
theorem dX3_yearsNow_87 : decode cX3_yearsNow 87 = .ok (.if_icmp .ne 8, 3) := by decide +kernel
theorem dX3_yearsNow_90 : decode cX3_yearsNow 90 = .ok (.iload 5, 2) := by decide +kernel
theorem dX3_yearsNow_92 : decode cX3_yearsNow 92 = .ok (.goto 8, 3) := by decide +kernel
theorem dX3_yearsNow_95 : decode cX3_yearsNow 95 = .ok (.aload_n 0, 1) := by decide +kernel
theorem dX3_yearsNow_96 : decode cX3_yearsNow 96 = .ok (.getfield 184, 3) := by decide +kernel
theorem dX3_yearsNow_99 : decode cX3_yearsNow 99 = .ok (.l2i, 1) := by decide +kernel
theorem dX3_yearsNow_100 : decode cX3_yearsNow 100 = .ok (.ireturn, 1) := by decide +kernel
theorem dX3_years_0 : decode cX3_years 0 = .ok (.iload_n 1, 1) := by decide +kernel
theorem dX3_years_1 : decode cX3_years 1 = .ok (.iconst 1, 1) := by decide +kernel
theorem dX3_years_2 : decode cX3_years 2 = .ok (.bipush 60, 2) := by decide +kernel
theorem dX3_years_4 : decode cX3_years 4 = .ok (.invokestatic 62, 3) := by decide +kernel
theorem dX3_years_7 : decode cX3_years 7 = .ok (.ifCond .eq 16, 3) := by decide +kernel
theorem dX3_years_10 : decode cX3_years 10 = .ok (.iload_n 2, 1) := by decide +kernel
theorem dX3_years_11 : decode cX3_years 11 = .ok (.ifCond .lt 12, 3) := by decide +kernel
theorem dX3_years_14 : decode cX3_years 14 = .ok (.iload_n 3, 1) := by decide +kernel
theorem dX3_years_15 : decode cX3_years 15 = .ok (.iconst 0, 1) := by decide +kernel
theorem dX3_years_16 : decode cX3_years 16 = .ok (.iconst 2, 1) := by decide +kernel
theorem dX3_years_17 : decode cX3_years 17 = .ok (.invokestatic 62, 3) := by decide +kernel
theorem dX3_years_20 : decode cX3_years 20 = .ok (.ifCond .ne 6, 3) := by decide +kernel
theorem dX3_years_23 : decode cX3_years 23 = .ok (.bipush (-102), 2) := by decide +kernel
theorem dX3_years_25 : decode cX3_years 25 = .ok (.ireturn, 1) := by decide +kernel
theorem dX3_years_26 : decode cX3_years 26 = .ok (.aload_n 0, 1) := by decide +kernel
theorem dX3_years_27 : decode cX3_years 27 = .ok (.getfield 82, 3) := by decide +kernel
theorem dX3_years_30 : decode cX3_years 30 = .ok (.ifCond .ne 8, 3) := by decide +kernel
theorem dX3_years_33 : decode cX3_years 33 = .ok (.bipush (-103), 2) := by decide +kernel
theorem dX3_years_35 : decode cX3_years 35 = .ok (.goto 10, 3) := by decide +kernel
theorem dX3_years_38 : decode cX3_years 38 = .ok (.aload_n 0, 1) := by decide +kernel
theorem dX3_years_39 : decode cX3_years 39 = .ok (.iload_n 1, 1) := by decide +kernel
theorem dX3_years_40 : decode cX3_years 40 = .ok (.iload_n 2, 1) := by decide +kernel
theorem dX3_years_41 : decode cX3_years 41 = .ok (.iload_n 3, 1) := by decide +kernel
theorem dX3_years_42 : decode cX3_years 42 = .ok (.invokevirtual 197, 3) := by decide +kernel
theorem dX3_years_45 : decode cX3_years 45 = .ok (.ireturn, 1) := by decide +kernel
theorem dX3_image_0 : decode cX3_image 0 = .ok (.aload_n 0, 1) := by decide +kernel
theorem dX3_image_1 : decode cX3_image 1 = .ok (.getfield 82, 3) := by decide +kernel
theorem dX3_image_4 : decode cX3_image 4 = .ok (.ifCond .ne 6, 3) := by decide +kernel
theorem dX3_image_7 : decode cX3_image 7 = .ok (.bipush (-103), 2) := by decide +kernel
theorem dX3_image_9 : decode cX3_image 9 = .ok (.ireturn, 1) := by decide +kernel
theorem dX3_image_10 : decode cX3_image 10 = .ok (.aload_n 0, 1) := by decide +kernel
theorem dX3_image_11 : decode cX3_image 11 = .ok (.iconst 1, 1) := by decide +kernel
theorem dX3_image_12 : decode cX3_image 12 = .ok (.putfield 201, 3) := by decide +kernel
theorem dX3_image_15 : decode cX3_image 15 = .ok (.aload_n 0, 1) := by decide +kernel
theorem dX3_image_16 : decode cX3_image 16 = .ok (.aload_n 0, 1) := by decide +kernel
theorem dX3_image_17 : decode cX3_image 17 = .ok (.getfield 85, 3) := by decide +kernel
theorem dX3_image_20 : decode cX3_image 20 = .ok (.putfield 205, 3) := by decide +kernel
theorem dX3_image_23 : decode cX3_image 23 = .ok (.aload_n 0, 1) := by decide +kernel
theorem dX3_image_24 : decode cX3_image 24 = .ok (.aload_n 0, 1) := by decide +kernel
theorem dX3_image_25 : decode cX3_image 25 = .ok (.getfield 88, 3) := by decide +kernel
theorem dX3_image_28 : decode cX3_image 28 = .ok (.putfield 208, 3) := by decide +kernel
theorem dX3_image_31 : decode cX3_image 31 = .ok (.aload_n 0, 1) := by decide +kernel
theorem dX3_image_32 : decode cX3_image 32 = .ok (.aload_n 0, 1) := by decide +kernel
theorem dX3_image_33 : decode cX3_image 33 = .ok (.getfield 91, 3) := by decide +kernel
theorem dX3_image_36 : decode cX3_image 36 = .ok (.putfield 211, 3) := by decide +kernel
theorem dX3_image_39 : decode cX3_image 39 = .ok (.aload_n 0, 1) := by decide +kernel
theorem dX3_image_40 : decode cX3_image 40 = .ok (.aload_n 0, 1) := by decide +kernel
theorem dX3_image_41 : decode cX3_image 41 = .ok (.getfield 94, 3) := by decide +kernel
theorem dX3_image_44 : decode cX3_image 44 = .ok (.putfield 214, 3) := by decide +kernel
theorem dX3_image_47 : decode cX3_image 47 = .ok (.aload_n 0, 1) := by decide +kernel
theorem dX3_image_48 : decode cX3_image 48 = .ok (.aload_n 0, 1) := by decide +kernel
theorem dX3_image_49 : decode cX3_image 49 = .ok (.getfield 97, 3) := by decide +kernel
theorem dX3_image_52 : decode cX3_image 52 = .ok (.putfield 217, 3) := by decide +kernel
theorem dX3_image_55 : decode cX3_image 55 = .ok (.iconst 0, 1) := by decide +kernel
theorem dX3_image_56 : decode cX3_image 56 = .ok (.istore_n 1, 1) := by decide +kernel
theorem dX3_image_57 : decode cX3_image 57 = .ok (.iload_n 1, 1) := by decide +kernel
theorem dX3_image_58 : decode cX3_image 58 = .ok (.bipush 6, 2) := by decide +kernel
theorem dX3_image_60 : decode cX3_image 60 = .ok (.if_icmp .ge 81, 3) := by decide +kernel
theorem dX3_image_63 : decode cX3_image 63 = .ok (.aload_n 0, 1) := by decide +kernel
theorem dX3_image_64 : decode cX3_image 64 = .ok (.getfield 41, 3) := by decide +kernel
theorem dX3_image_67 : decode cX3_image 67 = .ok (.iload_n 1, 1) := by decide +kernel
theorem dX3_image_68 : decode cX3_image 68 = .ok (.aload_n 0, 1) := by decide +kernel
theorem dX3_image_69 : decode cX3_image 69 = .ok (.getfield 13, 3) := by decide +kernel
theorem dX3_image_72 : decode cX3_image 72 = .ok (.iload_n 1, 1) := by decide +kernel
theorem dX3_image_73 : decode cX3_image 73 = .ok (.iaload, 1) := by decide +kernel
theorem dX3_image_74 : decode cX3_image 74 = .ok (.iastore, 1) := by decide +kernel
theorem dX3_image_75 : decode cX3_image 75 = .ok (.aload_n 0, 1) := by decide +kernel
theorem dX3_image_76 : decode cX3_image 76 = .ok (.getfield 44, 3) := by decide +kernel
theorem dX3_image_79 : decode cX3_image 79 = .ok (.iload_n 1, 1) := by decide +kernel
theorem dX3_image_80 : decode cX3_image 80 = .ok (.aload_n 0, 1) := by decide +kernel
theorem dX3_image_81 : decode cX3_image 81 = .ok (.getfield 16, 3) := by decide +kernel
theorem dX3_image_84 : decode cX3_image 84 = .ok (.iload_n 1, 1) := by decide +kernel
theorem dX3_image_85 : decode cX3_image 85 = .ok (.iaload, 1) := by decide +kernel
theorem dX3_image_86 : decode cX3_image 86 = .ok (.iastore, 1) := by decide +kernel
theorem dX3_image_87 : decode cX3_image 87 = .ok (.aload_n 0, 1) := by decide +kernel
theorem dX3_image_88 : decode cX3_image 88 = .ok (.getfield 50, 3) := by decide +kernel
theorem dX3_image_91 : decode cX3_image 91 = .ok (.iload_n 1, 1) := by decide +kernel
theorem dX3_image_92 : decode cX3_image 92 = .ok (.aload_n 0, 1) := by decide +kernel
theorem dX3_image_93 : decode cX3_image 93 = .ok (.getfield 22, 3) := by decide +kernel
theorem dX3_image_96 : decode cX3_image 96 = .ok (.iload_n 1, 1) := by decide +kernel
theorem dX3_image_97 : decode cX3_image 97 = .ok (.iaload, 1) := by decide +kernel
theorem dX3_image_98 : decode cX3_image 98 = .ok (.iastore, 1) := by decide +kernel
theorem dX3_image_99 : decode cX3_image 99 = .ok (.aload_n 0, 1) := by decide +kernel
theorem dX3_image_100 : decode cX3_image 100 = .ok (.getfield 53, 3) := by decide +kernel
theorem dX3_image_103 : decode cX3_image 103 = .ok (.iload_n 1, 1) := by decide +kernel
theorem dX3_image_104 : decode cX3_image 104 = .ok (.aload_n 0, 1) := by decide +kernel
theorem dX3_image_105 : decode cX3_image 105 = .ok (.getfield 25, 3) := by decide +kernel
theorem dX3_image_108 : decode cX3_image 108 = .ok (.iload_n 1, 1) := by decide +kernel
theorem dX3_image_109 : decode cX3_image 109 = .ok (.iaload, 1) := by decide +kernel
theorem dX3_image_110 : decode cX3_image 110 = .ok (.iastore, 1) := by decide +kernel
theorem dX3_image_111 : decode cX3_image 111 = .ok (.aload_n 0, 1) := by decide +kernel
theorem dX3_image_112 : decode cX3_image 112 = .ok (.getfield 56, 3) := by decide +kernel
theorem dX3_image_115 : decode cX3_image 115 = .ok (.iload_n 1, 1) := by decide +kernel
theorem dX3_image_116 : decode cX3_image 116 = .ok (.aload_n 0, 1) := by decide +kernel
theorem dX3_image_117 : decode cX3_image 117 = .ok (.getfield 28, 3) := by decide +kernel
theorem dX3_image_120 : decode cX3_image 120 = .ok (.iload_n 1, 1) := by decide +kernel
theorem dX3_image_121 : decode cX3_image 121 = .ok (.iaload, 1) := by decide +kernel
theorem dX3_image_122 : decode cX3_image 122 = .ok (.iastore, 1) := by decide +kernel
theorem dX3_image_123 : decode cX3_image 123 = .ok (.aload_n 0, 1) := by decide +kernel
theorem dX3_image_124 : decode cX3_image 124 = .ok (.getfield 59, 3) := by decide +kernel
theorem dX3_image_127 : decode cX3_image 127 = .ok (.iload_n 1, 1) := by decide +kernel
theorem dX3_image_128 : decode cX3_image 128 = .ok (.aload_n 0, 1) := by decide +kernel
theorem dX3_image_129 : decode cX3_image 129 = .ok (.getfield 31, 3) := by decide +kernel
theorem dX3_image_132 : decode cX3_image 132 = .ok (.iload_n 1, 1) := by decide +kernel
theorem dX3_image_133 : decode cX3_image 133 = .ok (.iaload, 1) := by decide +kernel
theorem dX3_image_134 : decode cX3_image 134 = .ok (.iastore, 1) := by decide +kernel
theorem dX3_image_135 : decode cX3_image 135 = .ok (.iinc 1 1, 3) := by decide +kernel
theorem dX3_image_138 : decode cX3_image 138 = .ok (.goto (-81), 3) := by decide +kernel
theorem dX3_image_141 : decode cX3_image 141 = .ok (.iconst 0, 1) := by decide +kernel
theorem dX3_image_142 : decode cX3_image 142 = .ok (.istore_n 1, 1) := by decide +kernel
theorem dX3_image_143 : decode cX3_image 143 = .ok (.iload_n 1, 1) := by decide +kernel
theorem dX3_image_144 : decode cX3_image 144 = .ok (.sipush 186, 3) := by decide +kernel
theorem dX3_image_147 : decode cX3_image 147 = .ok (.if_icmp .ge 21, 3) := by decide +kernel
theorem dX3_image_150 : decode cX3_image 150 = .ok (.aload_n 0, 1) := by decide +kernel
theorem dX3_image_151 : decode cX3_image 151 = .ok (.getfield 47, 3) := by decide +kernel
theorem dX3_image_154 : decode cX3_image 154 = .ok (.iload_n 1, 1) := by decide +kernel
theorem dX3_image_155 : decode cX3_image 155 = .ok (.aload_n 0, 1) := by decide +kernel
theorem dX3_image_156 : decode cX3_image 156 = .ok (.getfield 19, 3) := by decide +kernel
theorem dX3_image_159 : decode cX3_image 159 = .ok (.iload_n 1, 1) := by decide +kernel
theorem dX3_image_160 : decode cX3_image 160 = .ok (.iaload, 1) := by decide +kernel
theorem dX3_image_161 : decode cX3_image 161 = .ok (.iastore, 1) := by decide +kernel
theorem dX3_image_162 : decode cX3_image 162 = .ok (.iinc 1 1, 3) := by decide +kernel
theorem dX3_image_165 : decode cX3_image 165 = .ok (.goto (-22), 3) := by decide +kernel
theorem dX3_image_168 : decode cX3_image 168 = .ok (.aload_n 0, 1) := by decide +kernel
theorem dX3_image_169 : decode cX3_image 169 = .ok (.getfield 88, 3) := by decide +kernel
theorem dX3_image_172 : decode cX3_image 172 = .ok (.ireturn, 1) := by decide +kernel
theorem dX3_restore_0 : decode cX3_restore 0 = .ok (.aload_n 0, 1) := by decide +kernel
theorem dX3_restore_1 : decode cX3_restore 1 = .ok (.getfield 201, 3) := by decide +kernel
theorem dX3_restore_4 : decode cX3_restore 4 = .ok (.ifCond .eq 14, 3) := by decide +kernel
theorem dX3_restore_7 : decode cX3_restore 7 = .ok (.aload_n 0, 1) := by decide +kernel
theorem dX3_restore_8 : decode cX3_restore 8 = .ok (.getfield 205, 3) := by decide +kernel
theorem dX3_restore_11 : decode cX3_restore 11 = .ok (.aload_n 0, 1) := by decide +kernel
theorem dX3_restore_12 : decode cX3_restore 12 = .ok (.getfield 85, 3) := by decide +kernel
theorem dX3_restore_15 : decode cX3_restore 15 = .ok (.if_icmp .eq 6, 3) := by decide +kernel
theorem dX3_restore_18 : decode cX3_restore 18 = .ok (.bipush (-103), 2) := by decide +kernel
theorem dX3_restore_20 : decode cX3_restore 20 = .ok (.ireturn, 1) := by decide +kernel
theorem dX3_restore_21 : decode cX3_restore 21 = .ok (.aload_n 0, 1) := by decide +kernel
theorem dX3_restore_22 : decode cX3_restore 22 = .ok (.aload_n 0, 1) := by decide +kernel
theorem dX3_restore_23 : decode cX3_restore 23 = .ok (.getfield 208, 3) := by decide +kernel
theorem dX3_restore_26 : decode cX3_restore 26 = .ok (.putfield 88, 3) := by decide +kernel
theorem dX3_restore_29 : decode cX3_restore 29 = .ok (.aload_n 0, 1) := by decide +kernel
theorem dX3_restore_30 : decode cX3_restore 30 = .ok (.aload_n 0, 1) := by decide +kernel
theorem dX3_restore_31 : decode cX3_restore 31 = .ok (.getfield 211, 3) := by decide +kernel
theorem dX3_restore_34 : decode cX3_restore 34 = .ok (.putfield 91, 3) := by decide +kernel
theorem dX3_restore_37 : decode cX3_restore 37 = .ok (.aload_n 0, 1) := by decide +kernel
theorem dX3_restore_38 : decode cX3_restore 38 = .ok (.aload_n 0, 1) := by decide +kernel
theorem dX3_restore_39 : decode cX3_restore 39 = .ok (.getfield 214, 3) := by decide +kernel
theorem dX3_restore_42 : decode cX3_restore 42 = .ok (.putfield 94, 3) := by decide +kernel
theorem dX3_restore_45 : decode cX3_restore 45 = .ok (.aload_n 0, 1) := by decide +kernel
theorem dX3_restore_46 : decode cX3_restore 46 = .ok (.aload_n 0, 1) := by decide +kernel
theorem dX3_restore_47 : decode cX3_restore 47 = .ok (.getfield 217, 3) := by decide +kernel
theorem dX3_restore_50 : decode cX3_restore 50 = .ok (.putfield 97, 3) := by decide +kernel
theorem dX3_restore_53 : decode cX3_restore 53 = .ok (.iconst 0, 1) := by decide +kernel
theorem dX3_restore_54 : decode cX3_restore 54 = .ok (.istore_n 1, 1) := by decide +kernel
theorem dX3_restore_55 : decode cX3_restore 55 = .ok (.iload_n 1, 1) := by decide +kernel
theorem dX3_restore_56 : decode cX3_restore 56 = .ok (.bipush 6, 2) := by decide +kernel
theorem dX3_restore_58 : decode cX3_restore 58 = .ok (.if_icmp .ge 81, 3) := by decide +kernel
theorem dX3_restore_61 : decode cX3_restore 61 = .ok (.aload_n 0, 1) := by decide +kernel
theorem dX3_restore_62 : decode cX3_restore 62 = .ok (.getfield 13, 3) := by decide +kernel
theorem dX3_restore_65 : decode cX3_restore 65 = .ok (.iload_n 1, 1) := by decide +kernel
theorem dX3_restore_66 : decode cX3_restore 66 = .ok (.aload_n 0, 1) := by decide +kernel
theorem dX3_restore_67 : decode cX3_restore 67 = .ok (.getfield 41, 3) := by decide +kernel
theorem dX3_restore_70 : decode cX3_restore 70 = .ok (.iload_n 1, 1) := by decide +kernel
theorem dX3_restore_71 : decode cX3_restore 71 = .ok (.iaload, 1) := by decide +kernel
theorem dX3_restore_72 : decode cX3_restore 72 = .ok (.iastore, 1) := by decide +kernel
theorem dX3_restore_73 : decode cX3_restore 73 = .ok (.aload_n 0, 1) := by decide +kernel
theorem dX3_restore_74 : decode cX3_restore 74 = .ok (.getfield 16, 3) := by decide +kernel
theorem dX3_restore_77 : decode cX3_restore 77 = .ok (.iload_n 1, 1) := by decide +kernel
theorem dX3_restore_78 : decode cX3_restore 78 = .ok (.aload_n 0, 1) := by decide +kernel
theorem dX3_restore_79 : decode cX3_restore 79 = .ok (.getfield 44, 3) := by decide +kernel
theorem dX3_restore_82 : decode cX3_restore 82 = .ok (.iload_n 1, 1) := by decide +kernel
theorem dX3_restore_83 : decode cX3_restore 83 = .ok (.iaload, 1) := by decide +kernel
theorem dX3_restore_84 : decode cX3_restore 84 = .ok (.iastore, 1) := by decide +kernel
theorem dX3_restore_85 : decode cX3_restore 85 = .ok (.aload_n 0, 1) := by decide +kernel
theorem dX3_restore_86 : decode cX3_restore 86 = .ok (.getfield 22, 3) := by decide +kernel
theorem dX3_restore_89 : decode cX3_restore 89 = .ok (.iload_n 1, 1) := by decide +kernel
theorem dX3_restore_90 : decode cX3_restore 90 = .ok (.aload_n 0, 1) := by decide +kernel
theorem dX3_restore_91 : decode cX3_restore 91 = .ok (.getfield 50, 3) := by decide +kernel
theorem dX3_restore_94 : decode cX3_restore 94 = .ok (.iload_n 1, 1) := by decide +kernel
theorem dX3_restore_95 : decode cX3_restore 95 = .ok (.iaload, 1) := by decide +kernel
theorem dX3_restore_96 : decode cX3_restore 96 = .ok (.iastore, 1) := by decide +kernel
theorem dX3_restore_97 : decode cX3_restore 97 = .ok (.aload_n 0, 1) := by decide +kernel
theorem dX3_restore_98 : decode cX3_restore 98 = .ok (.getfield 25, 3) := by decide +kernel
theorem dX3_restore_101 : decode cX3_restore 101 = .ok (.iload_n 1, 1) := by decide +kernel
theorem dX3_restore_102 : decode cX3_restore 102 = .ok (.aload_n 0, 1) := by decide +kernel
theorem dX3_restore_103 : decode cX3_restore 103 = .ok (.getfield 53, 3) := by decide +kernel
theorem dX3_restore_106 : decode cX3_restore 106 = .ok (.iload_n 1, 1) := by decide +kernel
theorem dX3_restore_107 : decode cX3_restore 107 = .ok (.iaload, 1) := by decide +kernel
theorem dX3_restore_108 : decode cX3_restore 108 = .ok (.iastore, 1) := by decide +kernel
theorem dX3_restore_109 : decode cX3_restore 109 = .ok (.aload_n 0, 1) := by decide +kernel
theorem dX3_restore_110 : decode cX3_restore 110 = .ok (.getfield 28, 3) := by decide +kernel
theorem dX3_restore_113 : decode cX3_restore 113 = .ok (.iload_n 1, 1) := by decide +kernel
theorem dX3_restore_114 : decode cX3_restore 114 = .ok (.aload_n 0, 1) := by decide +kernel
theorem dX3_restore_115 : decode cX3_restore 115 = .ok (.getfield 56, 3) := by decide +kernel
theorem dX3_restore_118 : decode cX3_restore 118 = .ok (.iload_n 1, 1) := by decide +kernel
theorem dX3_restore_119 : decode cX3_restore 119 = .ok (.iaload, 1) := by decide +kernel
theorem dX3_restore_120 : decode cX3_restore 120 = .ok (.iastore, 1) := by decide +kernel
theorem dX3_restore_121 : decode cX3_restore 121 = .ok (.aload_n 0, 1) := by decide +kernel
theorem dX3_restore_122 : decode cX3_restore 122 = .ok (.getfield 31, 3) := by decide +kernel
theorem dX3_restore_125 : decode cX3_restore 125 = .ok (.iload_n 1, 1) := by decide +kernel
theorem dX3_restore_126 : decode cX3_restore 126 = .ok (.aload_n 0, 1) := by decide +kernel
theorem dX3_restore_127 : decode cX3_restore 127 = .ok (.getfield 59, 3) := by decide +kernel
theorem dX3_restore_130 : decode cX3_restore 130 = .ok (.iload_n 1, 1) := by decide +kernel
theorem dX3_restore_131 : decode cX3_restore 131 = .ok (.iaload, 1) := by decide +kernel
theorem dX3_restore_132 : decode cX3_restore 132 = .ok (.iastore, 1) := by decide +kernel
theorem dX3_restore_133 : decode cX3_restore 133 = .ok (.iinc 1 1, 3) := by decide +kernel
theorem dX3_restore_136 : decode cX3_restore 136 = .ok (.goto (-81), 3) := by decide +kernel
theorem dX3_restore_139 : decode cX3_restore 139 = .ok (.iconst 0, 1) := by decide +kernel
theorem dX3_restore_140 : decode cX3_restore 140 = .ok (.istore_n 1, 1) := by decide +kernel
theorem dX3_restore_141 : decode cX3_restore 141 = .ok (.iload_n 1, 1) := by decide +kernel
theorem dX3_restore_142 : decode cX3_restore 142 = .ok (.sipush 186, 3) := by decide +kernel
theorem dX3_restore_145 : decode cX3_restore 145 = .ok (.if_icmp .ge 21, 3) := by decide +kernel
theorem dX3_restore_148 : decode cX3_restore 148 = .ok (.aload_n 0, 1) := by decide +kernel
theorem dX3_restore_149 : decode cX3_restore 149 = .ok (.getfield 19, 3) := by decide +kernel
theorem dX3_restore_152 : decode cX3_restore 152 = .ok (.iload_n 1, 1) := by decide +kernel
theorem dX3_restore_153 : decode cX3_restore 153 = .ok (.aload_n 0, 1) := by decide +kernel
theorem dX3_restore_154 : decode cX3_restore 154 = .ok (.getfield 47, 3) := by decide +kernel
theorem dX3_restore_157 : decode cX3_restore 157 = .ok (.iload_n 1, 1) := by decide +kernel
theorem dX3_restore_158 : decode cX3_restore 158 = .ok (.iaload, 1) := by decide +kernel
theorem dX3_restore_159 : decode cX3_restore 159 = .ok (.iastore, 1) := by decide +kernel
theorem dX3_restore_160 : decode cX3_restore 160 = .ok (.iinc 1 1, 3) := by decide +kernel
theorem dX3_restore_163 : decode cX3_restore 163 = .ok (.goto (-22), 3) := by decide +kernel
theorem dX3_restore_166 : decode cX3_restore 166 = .ok (.aload_n 0, 1) := by decide +kernel
theorem dX3_restore_167 : decode cX3_restore 167 = .ok (.getfield 88, 3) := by decide +kernel
theorem dX3_restore_170 : decode cX3_restore 170 = .ok (.ireturn, 1) := by decide +kernel
theorem dX3_unlike_0 : decode cX3_unlike 0 = .ok (.iconst 0, 1) := by decide +kernel
theorem dX3_unlike_1 : decode cX3_unlike 1 = .ok (.istore_n 1, 1) := by decide +kernel
theorem dX3_unlike_2 : decode cX3_unlike 2 = .ok (.iconst 0, 1) := by decide +kernel
theorem dX3_unlike_3 : decode cX3_unlike 3 = .ok (.istore_n 2, 1) := by decide +kernel
theorem dX3_unlike_4 : decode cX3_unlike 4 = .ok (.iload_n 2, 1) := by decide +kernel
theorem dX3_unlike_5 : decode cX3_unlike 5 = .ok (.aload_n 0, 1) := by decide +kernel
theorem dX3_unlike_6 : decode cX3_unlike 6 = .ok (.getfield 82, 3) := by decide +kernel
theorem dX3_unlike_9 : decode cX3_unlike 9 = .ok (.if_icmp .ge 34, 3) := by decide +kernel
theorem dX3_unlike_12 : decode cX3_unlike 12 = .ok (.iload_n 1, 1) := by decide +kernel
theorem dX3_unlike_13 : decode cX3_unlike 13 = .ok (.aload_n 0, 1) := by decide +kernel
theorem dX3_unlike_14 : decode cX3_unlike 14 = .ok (.aload_n 0, 1) := by decide +kernel
theorem dX3_unlike_15 : decode cX3_unlike 15 = .ok (.iload_n 2, 1) := by decide +kernel
theorem dX3_unlike_16 : decode cX3_unlike 16 = .ok (.invokevirtual 107, 3) := by decide +kernel
theorem dX3_unlike_19 : decode cX3_unlike 19 = .ok (.aload_n 0, 1) := by decide +kernel
theorem dX3_unlike_20 : decode cX3_unlike 20 = .ok (.getfield 88, 3) := by decide +kernel
theorem dX3_unlike_23 : decode cX3_unlike 23 = .ok (.invokevirtual 116, 3) := by decide +kernel
theorem dX3_unlike_26 : decode cX3_unlike 26 = .ok (.iload_n 2, 1) := by decide +kernel
theorem dX3_unlike_27 : decode cX3_unlike 27 = .ok (.if_icmp .ne 7, 3) := by decide +kernel
theorem dX3_unlike_30 : decode cX3_unlike 30 = .ok (.iconst 1, 1) := by decide +kernel
theorem dX3_unlike_31 : decode cX3_unlike 31 = .ok (.goto 4, 3) := by decide +kernel
theorem dX3_unlike_34 : decode cX3_unlike 34 = .ok (.iconst 0, 1) := by decide +kernel
theorem dX3_unlike_35 : decode cX3_unlike 35 = .ok (.iadd, 1) := by decide +kernel
theorem dX3_unlike_36 : decode cX3_unlike 36 = .ok (.istore_n 1, 1) := by decide +kernel
theorem dX3_unlike_37 : decode cX3_unlike 37 = .ok (.iinc 2 1, 3) := by decide +kernel
theorem dX3_unlike_40 : decode cX3_unlike 40 = .ok (.goto (-36), 3) := by decide +kernel
theorem dX3_unlike_43 : decode cX3_unlike 43 = .ok (.iload_n 1, 1) := by decide +kernel
theorem dX3_unlike_44 : decode cX3_unlike 44 = .ok (.ireturn, 1) := by decide +kernel
theorem dX3_owesAll_0 : decode cX3_owesAll 0 = .ok (.iconst 0, 1) := by decide +kernel
theorem dX3_owesAll_1 : decode cX3_owesAll 1 = .ok (.istore_n 1, 1) := by decide +kernel
theorem dX3_owesAll_2 : decode cX3_owesAll 2 = .ok (.iconst 0, 1) := by decide +kernel
theorem dX3_owesAll_3 : decode cX3_owesAll 3 = .ok (.istore_n 2, 1) := by decide +kernel
theorem dX3_owesAll_4 : decode cX3_owesAll 4 = .ok (.iload_n 2, 1) := by decide +kernel
theorem dX3_owesAll_5 : decode cX3_owesAll 5 = .ok (.aload_n 0, 1) := by decide +kernel
theorem dX3_owesAll_6 : decode cX3_owesAll 6 = .ok (.getfield 82, 3) := by decide +kernel
theorem dX3_owesAll_9 : decode cX3_owesAll 9 = .ok (.if_icmp .ge 17, 3) := by decide +kernel
theorem dX3_owesAll_12 : decode cX3_owesAll 12 = .ok (.iload_n 1, 1) := by decide +kernel
theorem dX3_owesAll_13 : decode cX3_owesAll 13 = .ok (.aload_n 0, 1) := by decide +kernel
theorem dX3_owesAll_14 : decode cX3_owesAll 14 = .ok (.iload_n 2, 1) := by decide +kernel
theorem dX3_owesAll_15 : decode cX3_owesAll 15 = .ok (.invokevirtual 119, 3) := by decide +kernel
theorem dX3_owesAll_18 : decode cX3_owesAll 18 = .ok (.iadd, 1) := by decide +kernel
theorem dX3_owesAll_19 : decode cX3_owesAll 19 = .ok (.istore_n 1, 1) := by decide +kernel
theorem dX3_owesAll_20 : decode cX3_owesAll 20 = .ok (.iinc 2 1, 3) := by decide +kernel
theorem dX3_owesAll_23 : decode cX3_owesAll 23 = .ok (.goto (-19), 3) := by decide +kernel
theorem dX3_owesAll_26 : decode cX3_owesAll 26 = .ok (.iload_n 1, 1) := by decide +kernel
theorem dX3_owesAll_27 : decode cX3_owesAll 27 = .ok (.ireturn, 1) := by decide +kernel
theorem dX3_howMany_0 : decode cX3_howMany 0 = .ok (.iload_n 1, 1) := by decide +kernel
theorem dX3_howMany_1 : decode cX3_howMany 1 = .ok (.tableswitch 105 0 9 #[55, 60, 65, 70, 75, 80, 85, 90, 95, 100], 55) := by decide +kernel
theorem dX3_howMany_56 : decode cX3_howMany 56 = .ok (.aload_n 0, 1) := by decide +kernel
theorem dX3_howMany_57 : decode cX3_howMany 57 = .ok (.getfield 82, 3) := by decide +kernel
theorem dX3_howMany_60 : decode cX3_howMany 60 = .ok (.ireturn, 1) := by decide +kernel
theorem dX3_howMany_61 : decode cX3_howMany 61 = .ok (.aload_n 0, 1) := by decide +kernel
theorem dX3_howMany_62 : decode cX3_howMany 62 = .ok (.getfield 88, 3) := by decide +kernel
theorem dX3_howMany_65 : decode cX3_howMany 65 = .ok (.ireturn, 1) := by decide +kernel
theorem dX3_howMany_66 : decode cX3_howMany 66 = .ok (.aload_n 0, 1) := by decide +kernel
theorem dX3_howMany_67 : decode cX3_howMany 67 = .ok (.getfield 91, 3) := by decide +kernel
theorem dX3_howMany_70 : decode cX3_howMany 70 = .ok (.ireturn, 1) := by decide +kernel
theorem dX3_howMany_71 : decode cX3_howMany 71 = .ok (.aload_n 0, 1) := by decide +kernel
theorem dX3_howMany_72 : decode cX3_howMany 72 = .ok (.invokevirtual 148, 3) := by decide +kernel
theorem dX3_howMany_75 : decode cX3_howMany 75 = .ok (.ireturn, 1) := by decide +kernel
theorem dX3_howMany_76 : decode cX3_howMany 76 = .ok (.aload_n 0, 1) := by decide +kernel
theorem dX3_howMany_77 : decode cX3_howMany 77 = .ok (.invokevirtual 220, 3) := by decide +kernel
theorem dX3_howMany_80 : decode cX3_howMany 80 = .ok (.ireturn, 1) := by decide +kernel
theorem dX3_howMany_81 : decode cX3_howMany 81 = .ok (.aload_n 0, 1) := by decide +kernel
theorem dX3_howMany_82 : decode cX3_howMany 82 = .ok (.getfield 94, 3) := by decide +kernel
theorem dX3_howMany_85 : decode cX3_howMany 85 = .ok (.ireturn, 1) := by decide +kernel
theorem dX3_howMany_86 : decode cX3_howMany 86 = .ok (.aload_n 0, 1) := by decide +kernel
theorem dX3_howMany_87 : decode cX3_howMany 87 = .ok (.invokevirtual 223, 3) := by decide +kernel
theorem dX3_howMany_90 : decode cX3_howMany 90 = .ok (.ireturn, 1) := by decide +kernel
theorem dX3_howMany_91 : decode cX3_howMany 91 = .ok (.aload_n 0, 1) := by decide +kernel
theorem dX3_howMany_92 : decode cX3_howMany 92 = .ok (.getfield 97, 3) := by decide +kernel
theorem dX3_howMany_95 : decode cX3_howMany 95 = .ok (.ireturn, 1) := by decide +kernel
theorem dX3_howMany_96 : decode cX3_howMany 96 = .ok (.aload_n 0, 1) := by decide +kernel
theorem dX3_howMany_97 : decode cX3_howMany 97 = .ok (.getfield 66, 3) := by decide +kernel
theorem dX3_howMany_100 : decode cX3_howMany 100 = .ok (.ireturn, 1) := by decide +kernel
theorem dX3_howMany_101 : decode cX3_howMany 101 = .ok (.aload_n 0, 1) := by decide +kernel
theorem dX3_howMany_102 : decode cX3_howMany 102 = .ok (.getfield 85, 3) := by decide +kernel
theorem dX3_howMany_105 : decode cX3_howMany 105 = .ok (.ireturn, 1) := by decide +kernel
theorem dX3_howMany_106 : decode cX3_howMany 106 = .ok (.bipush (-102), 2) := by decide +kernel
theorem dX3_howMany_108 : decode cX3_howMany 108 = .ok (.ireturn, 1) := by decide +kernel
theorem dX3_count_0 : decode cX3_count 0 = .ok (.aload_n 0, 1) := by decide +kernel
theorem dX3_count_1 : decode cX3_count 1 = .ok (.iload_n 1, 1) := by decide +kernel
theorem dX3_count_2 : decode cX3_count 2 = .ok (.invokevirtual 226, 3) := by decide +kernel
theorem dX3_count_5 : decode cX3_count 5 = .ok (.ireturn, 1) := by decide +kernel
theorem dX3_mix_0 : decode cX3_mix 0 = .ok (.aload_n 0, 1) := by decide +kernel
theorem dX3_mix_1 : decode cX3_mix 1 = .ok (.ldc2_w 229, 3) := by decide +kernel
theorem dX3_mix_4 : decode cX3_mix 4 = .ok (.aload_n 0, 1) := by decide +kernel
theorem dX3_mix_5 : decode cX3_mix 5 = .ok (.getfield 231, 3) := by decide +kernel
theorem dX3_mix_8 : decode cX3_mix 8 = .ok (.lmul, 1) := by decide +kernel
theorem dX3_mix_9 : decode cX3_mix 9 = .ok (.lload_n 1, 1) := by decide +kernel
theorem dX3_mix_10 : decode cX3_mix 10 = .ok (.ladd, 1) := by decide +kernel
theorem dX3_mix_11 : decode cX3_mix 11 = .ok (.putfield 231, 3) := by decide +kernel
theorem dX3_mix_14 : decode cX3_mix 14 = .ok (.return_, 1) := by decide +kernel
theorem dX3_mixHouse_0 : decode cX3_mixHouse 0 = .ok (.iconst 0, 1) := by decide +kernel
theorem dX3_mixHouse_1 : decode cX3_mixHouse 1 = .ok (.istore_n 2, 1) := by decide +kernel
theorem dX3_mixHouse_2 : decode cX3_mixHouse 2 = .ok (.iload_n 2, 1) := by decide +kernel
theorem dX3_mixHouse_3 : decode cX3_mixHouse 3 = .ok (.bipush 6, 2) := by decide +kernel
theorem dX3_mixHouse_5 : decode cX3_mixHouse 5 = .ok (.if_icmp .ge 20, 3) := by decide +kernel
theorem dX3_mixHouse_8 : decode cX3_mixHouse 8 = .ok (.aload_n 0, 1) := by decide +kernel
theorem dX3_mixHouse_9 : decode cX3_mixHouse 9 = .ok (.aload_n 0, 1) := by decide +kernel
theorem dX3_mixHouse_10 : decode cX3_mixHouse 10 = .ok (.iload_n 1, 1) := by decide +kernel
theorem dX3_mixHouse_11 : decode cX3_mixHouse 11 = .ok (.iload_n 2, 1) := by decide +kernel
theorem dX3_mixHouse_12 : decode cX3_mixHouse 12 = .ok (.invokevirtual 125, 3) := by decide +kernel
theorem dX3_mixHouse_15 : decode cX3_mixHouse 15 = .ok (.i2l, 1) := by decide +kernel
theorem dX3_mixHouse_16 : decode cX3_mixHouse 16 = .ok (.invokevirtual 234, 3) := by decide +kernel
theorem dX3_mixHouse_19 : decode cX3_mixHouse 19 = .ok (.iinc 2 1, 3) := by decide +kernel
theorem dX3_mixHouse_22 : decode cX3_mixHouse 22 = .ok (.goto (-20), 3) := by decide +kernel
theorem dX3_mixHouse_25 : decode cX3_mixHouse 25 = .ok (.iconst 0, 1) := by decide +kernel
theorem dX3_mixHouse_26 : decode cX3_mixHouse 26 = .ok (.istore_n 2, 1) := by decide +kernel
theorem dX3_mixHouse_27 : decode cX3_mixHouse 27 = .ok (.iload_n 2, 1) := by decide +kernel
theorem dX3_mixHouse_28 : decode cX3_mixHouse 28 = .ok (.aload_n 0, 1) := by decide +kernel
theorem dX3_mixHouse_29 : decode cX3_mixHouse 29 = .ok (.getfield 88, 3) := by decide +kernel
theorem dX3_mixHouse_32 : decode cX3_mixHouse 32 = .ok (.if_icmp .gt 20, 3) := by decide +kernel
theorem dX3_mixHouse_35 : decode cX3_mixHouse 35 = .ok (.aload_n 0, 1) := by decide +kernel
theorem dX3_mixHouse_36 : decode cX3_mixHouse 36 = .ok (.aload_n 0, 1) := by decide +kernel
theorem dX3_mixHouse_37 : decode cX3_mixHouse 37 = .ok (.iload_n 1, 1) := by decide +kernel
theorem dX3_mixHouse_38 : decode cX3_mixHouse 38 = .ok (.iload_n 2, 1) := by decide +kernel
theorem dX3_mixHouse_39 : decode cX3_mixHouse 39 = .ok (.invokevirtual 113, 3) := by decide +kernel
theorem dX3_mixHouse_42 : decode cX3_mixHouse 42 = .ok (.i2l, 1) := by decide +kernel
theorem dX3_mixHouse_43 : decode cX3_mixHouse 43 = .ok (.invokevirtual 234, 3) := by decide +kernel
theorem dX3_mixHouse_46 : decode cX3_mixHouse 46 = .ok (.iinc 2 1, 3) := by decide +kernel
theorem dX3_mixHouse_49 : decode cX3_mixHouse 49 = .ok (.goto (-22), 3) := by decide +kernel
theorem dX3_mixHouse_52 : decode cX3_mixHouse 52 = .ok (.return_, 1) := by decide +kernel
theorem dX3_digest_0 : decode cX3_digest 0 = .ok (.aload_n 0, 1) := by decide +kernel
theorem dX3_digest_1 : decode cX3_digest 1 = .ok (.ldc2_w 238, 3) := by decide +kernel
theorem dX3_digest_4 : decode cX3_digest 4 = .ok (.putfield 231, 3) := by decide +kernel
theorem dX3_digest_7 : decode cX3_digest 7 = .ok (.iconst 0, 1) := by decide +kernel
theorem dX3_digest_8 : decode cX3_digest 8 = .ok (.istore_n 1, 1) := by decide +kernel
theorem dX3_digest_9 : decode cX3_digest 9 = .ok (.iload_n 1, 1) := by decide +kernel
theorem dX3_digest_10 : decode cX3_digest 10 = .ok (.aload_n 0, 1) := by decide +kernel
theorem dX3_digest_11 : decode cX3_digest 11 = .ok (.getfield 82, 3) := by decide +kernel
theorem dX3_digest_14 : decode cX3_digest 14 = .ok (.if_icmp .ge 14, 3) := by decide +kernel
theorem dX3_digest_17 : decode cX3_digest 17 = .ok (.aload_n 0, 1) := by decide +kernel
theorem dX3_digest_18 : decode cX3_digest 18 = .ok (.iload_n 1, 1) := by decide +kernel
theorem dX3_digest_19 : decode cX3_digest 19 = .ok (.invokevirtual 240, 3) := by decide +kernel
theorem dX3_digest_22 : decode cX3_digest 22 = .ok (.iinc 1 1, 3) := by decide +kernel
theorem dX3_digest_25 : decode cX3_digest 25 = .ok (.goto (-16), 3) := by decide +kernel
theorem dX3_digest_28 : decode cX3_digest 28 = .ok (.aload_n 0, 1) := by decide +kernel
theorem dX3_digest_29 : decode cX3_digest 29 = .ok (.getfield 82, 3) := by decide +kernel
theorem dX3_digest_32 : decode cX3_digest 32 = .ok (.ifCond .le 65, 3) := by decide +kernel
theorem dX3_digest_35 : decode cX3_digest 35 = .ok (.aload_n 0, 1) := by decide +kernel
theorem dX3_digest_36 : decode cX3_digest 36 = .ok (.aload_n 0, 1) := by decide +kernel
theorem dX3_digest_37 : decode cX3_digest 37 = .ok (.invokevirtual 141, 3) := by decide +kernel
theorem dX3_digest_40 : decode cX3_digest 40 = .ok (.i2l, 1) := by decide +kernel
theorem dX3_digest_41 : decode cX3_digest 41 = .ok (.invokevirtual 234, 3) := by decide +kernel
theorem dX3_digest_44 : decode cX3_digest 44 = .ok (.aload_n 0, 1) := by decide +kernel
theorem dX3_digest_45 : decode cX3_digest 45 = .ok (.aload_n 0, 1) := by decide +kernel
theorem dX3_digest_46 : decode cX3_digest 46 = .ok (.bipush 9, 2) := by decide +kernel
theorem dX3_digest_48 : decode cX3_digest 48 = .ok (.iconst 0, 1) := by decide +kernel
theorem dX3_digest_49 : decode cX3_digest 49 = .ok (.invokevirtual 164, 3) := by decide +kernel
theorem dX3_digest_52 : decode cX3_digest 52 = .ok (.i2l, 1) := by decide +kernel
theorem dX3_digest_53 : decode cX3_digest 53 = .ok (.invokevirtual 234, 3) := by decide +kernel
theorem dX3_digest_56 : decode cX3_digest 56 = .ok (.aload_n 0, 1) := by decide +kernel
theorem dX3_digest_57 : decode cX3_digest 57 = .ok (.aload_n 0, 1) := by decide +kernel
theorem dX3_digest_58 : decode cX3_digest 58 = .ok (.bipush 9, 2) := by decide +kernel
theorem dX3_digest_60 : decode cX3_digest 60 = .ok (.iconst 1, 1) := by decide +kernel
theorem dX3_digest_61 : decode cX3_digest 61 = .ok (.invokevirtual 164, 3) := by decide +kernel
theorem dX3_digest_64 : decode cX3_digest 64 = .ok (.i2l, 1) := by decide +kernel
theorem dX3_digest_65 : decode cX3_digest 65 = .ok (.invokevirtual 234, 3) := by decide +kernel
theorem dX3_digest_68 : decode cX3_digest 68 = .ok (.aload_n 0, 1) := by decide +kernel
theorem dX3_digest_69 : decode cX3_digest 69 = .ok (.aload_n 0, 1) := by decide +kernel
theorem dX3_digest_70 : decode cX3_digest 70 = .ok (.iconst 0, 1) := by decide +kernel
theorem dX3_digest_71 : decode cX3_digest 71 = .ok (.invokevirtual 173, 3) := by decide +kernel
theorem dX3_digest_74 : decode cX3_digest 74 = .ok (.i2l, 1) := by decide +kernel
theorem dX3_digest_75 : decode cX3_digest 75 = .ok (.invokevirtual 234, 3) := by decide +kernel
theorem dX3_digest_78 : decode cX3_digest 78 = .ok (.aload_n 0, 1) := by decide +kernel
theorem dX3_digest_79 : decode cX3_digest 79 = .ok (.aload_n 0, 1) := by decide +kernel
theorem dX3_digest_80 : decode cX3_digest 80 = .ok (.iconst 1, 1) := by decide +kernel
theorem dX3_digest_81 : decode cX3_digest 81 = .ok (.invokevirtual 173, 3) := by decide +kernel
theorem dX3_digest_84 : decode cX3_digest 84 = .ok (.i2l, 1) := by decide +kernel
theorem dX3_digest_85 : decode cX3_digest 85 = .ok (.invokevirtual 234, 3) := by decide +kernel
theorem dX3_digest_88 : decode cX3_digest 88 = .ok (.aload_n 0, 1) := by decide +kernel
theorem dX3_digest_89 : decode cX3_digest 89 = .ok (.aload_n 0, 1) := by decide +kernel
theorem dX3_digest_90 : decode cX3_digest 90 = .ok (.invokevirtual 179, 3) := by decide +kernel
theorem dX3_digest_93 : decode cX3_digest 93 = .ok (.i2l, 1) := by decide +kernel
theorem dX3_digest_94 : decode cX3_digest 94 = .ok (.invokevirtual 234, 3) := by decide +kernel
theorem dX3_digest_97 : decode cX3_digest 97 = .ok (.iconst 0, 1) := by decide +kernel
theorem dX3_digest_98 : decode cX3_digest 98 = .ok (.istore_n 1, 1) := by decide +kernel
theorem dX3_digest_99 : decode cX3_digest 99 = .ok (.iload_n 1, 1) := by decide +kernel
theorem dX3_digest_100 : decode cX3_digest 100 = .ok (.aload_n 0, 1) := by decide +kernel
theorem dX3_digest_101 : decode cX3_digest 101 = .ok (.getfield 66, 3) := by decide +kernel
theorem dX3_digest_104 : decode cX3_digest 104 = .ok (.if_icmp .ge 20, 3) := by decide +kernel
theorem dX3_digest_107 : decode cX3_digest 107 = .ok (.aload_n 0, 1) := by decide +kernel
theorem dX3_digest_108 : decode cX3_digest 108 = .ok (.aload_n 0, 1) := by decide +kernel
theorem dX3_digest_109 : decode cX3_digest 109 = .ok (.getfield 34, 3) := by decide +kernel
theorem dX3_digest_112 : decode cX3_digest 112 = .ok (.iload_n 1, 1) := by decide +kernel
theorem dX3_digest_113 : decode cX3_digest 113 = .ok (.baload, 1) := by decide +kernel
theorem dX3_digest_114 : decode cX3_digest 114 = .ok (.i2l, 1) := by decide +kernel
theorem dX3_digest_115 : decode cX3_digest 115 = .ok (.invokevirtual 234, 3) := by decide +kernel
theorem dX3_digest_118 : decode cX3_digest 118 = .ok (.iinc 1 1, 3) := by decide +kernel
theorem dX3_digest_121 : decode cX3_digest 121 = .ok (.goto (-22), 3) := by decide +kernel
theorem dX3_digest_124 : decode cX3_digest 124 = .ok (.iconst 0, 1) := by decide +kernel
theorem dX3_digest_125 : decode cX3_digest 125 = .ok (.istore_n 1, 1) := by decide +kernel
theorem dX3_digest_126 : decode cX3_digest 126 = .ok (.iload_n 1, 1) := by decide +kernel
theorem dX3_digest_127 : decode cX3_digest 127 = .ok (.bipush 10, 2) := by decide +kernel
theorem dX3_digest_129 : decode cX3_digest 129 = .ok (.if_icmp .ge 19, 3) := by decide +kernel
theorem dX3_digest_132 : decode cX3_digest 132 = .ok (.aload_n 0, 1) := by decide +kernel
theorem dX3_digest_133 : decode cX3_digest 133 = .ok (.aload_n 0, 1) := by decide +kernel
theorem dX3_digest_134 : decode cX3_digest 134 = .ok (.iload_n 1, 1) := by decide +kernel
theorem dX3_digest_135 : decode cX3_digest 135 = .ok (.invokevirtual 226, 3) := by decide +kernel
theorem dX3_digest_138 : decode cX3_digest 138 = .ok (.i2l, 1) := by decide +kernel
theorem dX3_digest_139 : decode cX3_digest 139 = .ok (.invokevirtual 234, 3) := by decide +kernel
theorem dX3_digest_142 : decode cX3_digest 142 = .ok (.iinc 1 1, 3) := by decide +kernel
theorem dX3_digest_145 : decode cX3_digest 145 = .ok (.goto (-19), 3) := by decide +kernel
theorem dX3_digest_148 : decode cX3_digest 148 = .ok (.aload_n 0, 1) := by decide +kernel
theorem dX3_digest_149 : decode cX3_digest 149 = .ok (.getfield 231, 3) := by decide +kernel
theorem dX3_digest_152 : decode cX3_digest 152 = .ok (.lreturn, 1) := by decide +kernel
end
section
theorem dL_law_0 : decode cL_law 0 = .ok (.new 7, 3) := by decide +kernel
theorem dL_law_3 : decode cL_law 3 = .ok (.dup, 1) := by decide +kernel
theorem dL_law_4 : decode cL_law 4 = .ok (.invokespecial 9, 3) := by decide +kernel
theorem dL_law_7 : decode cL_law 7 = .ok (.astore_n 1, 1) := by decide +kernel
theorem dL_law_8 : decode cL_law 8 = .ok (.new 10, 3) := by decide +kernel
theorem dL_law_11 : decode cL_law 11 = .ok (.dup, 1) := by decide +kernel
theorem dL_law_12 : decode cL_law 12 = .ok (.invokespecial 12, 3) := by decide +kernel
theorem dL_law_15 : decode cL_law 15 = .ok (.astore_n 2, 1) := by decide +kernel
theorem dL_law_16 : decode cL_law 16 = .ok (.iconst 0, 1) := by decide +kernel
theorem dL_law_17 : decode cL_law 17 = .ok (.istore_n 3, 1) := by decide +kernel
theorem dL_law_18 : decode cL_law 18 = .ok (.iload_n 3, 1) := by decide +kernel
theorem dL_law_19 : decode cL_law 19 = .ok (.aload_n 0, 1) := by decide +kernel
theorem dL_law_20 : decode cL_law 20 = .ok (.arraylength, 1) := by decide +kernel
theorem dL_law_21 : decode cL_law 21 = .ok (.iconst 4, 1) := by decide +kernel
theorem dL_law_22 : decode cL_law 22 = .ok (.isub, 1) := by decide +kernel
theorem dL_law_23 : decode cL_law 23 = .ok (.if_icmp .gt 670, 3) := by decide +kernel
theorem dL_law_26 : decode cL_law 26 = .ok (.aload_n 0, 1) := by decide +kernel
theorem dL_law_27 : decode cL_law 27 = .ok (.iload_n 3, 1) := by decide +kernel
theorem dL_law_28 : decode cL_law 28 = .ok (.iaload, 1) := by decide +kernel
theorem dL_law_29 : decode cL_law 29 = .ok (.bipush 31, 2) := by decide +kernel
theorem dL_law_31 : decode cL_law 31 = .ok (.iand, 1) := by decide +kernel
theorem dL_law_32 : decode cL_law 32 = .ok (.tableswitch 655 0 23 #[112, 135, 148, 161, 174, 207, 240, 263, 276, 309, 342, 355, 388, 401, 434, 467, 500, 513, 536, 549, 592, 605, 618, 641], 112) := by decide +kernel
theorem dL_law_144 : decode cL_law 144 = .ok (.aload_n 1, 1) := by decide +kernel
theorem dL_law_145 : decode cL_law 145 = .ok (.aload_n 0, 1) := by decide +kernel
theorem dL_law_146 : decode cL_law 146 = .ok (.iload_n 3, 1) := by decide +kernel
theorem dL_law_147 : decode cL_law 147 = .ok (.iconst 1, 1) := by decide +kernel
theorem dL_law_148 : decode cL_law 148 = .ok (.iadd, 1) := by decide +kernel
theorem dL_law_149 : decode cL_law 149 = .ok (.iaload, 1) := by decide +kernel
theorem dL_law_150 : decode cL_law 150 = .ok (.invokevirtual 13, 3) := by decide +kernel
theorem dL_law_153 : decode cL_law 153 = .ok (.aload_n 2, 1) := by decide +kernel
theorem dL_law_154 : decode cL_law 154 = .ok (.aload_n 0, 1) := by decide +kernel
theorem dL_law_155 : decode cL_law 155 = .ok (.iload_n 3, 1) := by decide +kernel
theorem dL_law_156 : decode cL_law 156 = .ok (.iconst 1, 1) := by decide +kernel
theorem dL_law_157 : decode cL_law 157 = .ok (.iadd, 1) := by decide +kernel
theorem dL_law_158 : decode cL_law 158 = .ok (.iaload, 1) := by decide +kernel
theorem dL_law_159 : decode cL_law 159 = .ok (.invokevirtual 17, 3) := by decide +kernel
theorem dL_law_162 : decode cL_law 162 = .ok (.if_icmp .eq 525, 3) := by decide +kernel
theorem dL_law_165 : decode cL_law 165 = .ok (.iconst 0, 1) := by decide +kernel
theorem dL_law_166 : decode cL_law 166 = .ok (.ireturn, 1) := by decide +kernel
theorem dL_law_167 : decode cL_law 167 = .ok (.aload_n 1, 1) := by decide +kernel
theorem dL_law_168 : decode cL_law 168 = .ok (.invokevirtual 18, 3) := by decide +kernel
theorem dL_law_171 : decode cL_law 171 = .ok (.aload_n 2, 1) := by decide +kernel
theorem dL_law_172 : decode cL_law 172 = .ok (.invokevirtual 22, 3) := by decide +kernel
theorem dL_law_175 : decode cL_law 175 = .ok (.if_icmp .eq 512, 3) := by decide +kernel
theorem dL_law_178 : decode cL_law 178 = .ok (.iconst 0, 1) := by decide +kernel
theorem dL_law_179 : decode cL_law 179 = .ok (.ireturn, 1) := by decide +kernel
theorem dL_law_180 : decode cL_law 180 = .ok (.aload_n 1, 1) := by decide +kernel
theorem dL_law_181 : decode cL_law 181 = .ok (.invokevirtual 23, 3) := by decide +kernel
theorem dL_law_184 : decode cL_law 184 = .ok (.aload_n 2, 1) := by decide +kernel
theorem dL_law_185 : decode cL_law 185 = .ok (.invokevirtual 26, 3) := by decide +kernel
theorem dL_law_188 : decode cL_law 188 = .ok (.if_icmp .eq 499, 3) := by decide +kernel
theorem dL_law_191 : decode cL_law 191 = .ok (.iconst 0, 1) := by decide +kernel
theorem dL_law_192 : decode cL_law 192 = .ok (.ireturn, 1) := by decide +kernel
theorem dL_law_193 : decode cL_law 193 = .ok (.aload_n 1, 1) := by decide +kernel
theorem dL_law_194 : decode cL_law 194 = .ok (.invokevirtual 27, 3) := by decide +kernel
theorem dL_law_197 : decode cL_law 197 = .ok (.aload_n 2, 1) := by decide +kernel
theorem dL_law_198 : decode cL_law 198 = .ok (.invokevirtual 30, 3) := by decide +kernel
theorem dL_law_201 : decode cL_law 201 = .ok (.if_icmp .eq 486, 3) := by decide +kernel
theorem dL_law_204 : decode cL_law 204 = .ok (.iconst 0, 1) := by decide +kernel
theorem dL_law_205 : decode cL_law 205 = .ok (.ireturn, 1) := by decide +kernel
theorem dL_law_206 : decode cL_law 206 = .ok (.aload_n 1, 1) := by decide +kernel
theorem dL_law_207 : decode cL_law 207 = .ok (.aload_n 0, 1) := by decide +kernel
theorem dL_law_208 : decode cL_law 208 = .ok (.iload_n 3, 1) := by decide +kernel
theorem dL_law_209 : decode cL_law 209 = .ok (.iconst 1, 1) := by decide +kernel
theorem dL_law_210 : decode cL_law 210 = .ok (.iadd, 1) := by decide +kernel
theorem dL_law_211 : decode cL_law 211 = .ok (.iaload, 1) := by decide +kernel
theorem dL_law_212 : decode cL_law 212 = .ok (.aload_n 0, 1) := by decide +kernel
theorem dL_law_213 : decode cL_law 213 = .ok (.iload_n 3, 1) := by decide +kernel
theorem dL_law_214 : decode cL_law 214 = .ok (.iconst 2, 1) := by decide +kernel
theorem dL_law_215 : decode cL_law 215 = .ok (.iadd, 1) := by decide +kernel
theorem dL_law_216 : decode cL_law 216 = .ok (.iaload, 1) := by decide +kernel
theorem dL_law_217 : decode cL_law 217 = .ok (.invokevirtual 31, 3) := by decide +kernel
theorem dL_law_220 : decode cL_law 220 = .ok (.aload_n 2, 1) := by decide +kernel
theorem dL_law_221 : decode cL_law 221 = .ok (.aload_n 0, 1) := by decide +kernel
theorem dL_law_222 : decode cL_law 222 = .ok (.iload_n 3, 1) := by decide +kernel
theorem dL_law_223 : decode cL_law 223 = .ok (.iconst 1, 1) := by decide +kernel
theorem dL_law_224 : decode cL_law 224 = .ok (.iadd, 1) := by decide +kernel
theorem dL_law_225 : decode cL_law 225 = .ok (.iaload, 1) := by decide +kernel
theorem dL_law_226 : decode cL_law 226 = .ok (.aload_n 0, 1) := by decide +kernel
theorem dL_law_227 : decode cL_law 227 = .ok (.iload_n 3, 1) := by decide +kernel
theorem dL_law_228 : decode cL_law 228 = .ok (.iconst 2, 1) := by decide +kernel
theorem dL_law_229 : decode cL_law 229 = .ok (.iadd, 1) := by decide +kernel
theorem dL_law_230 : decode cL_law 230 = .ok (.iaload, 1) := by decide +kernel
theorem dL_law_231 : decode cL_law 231 = .ok (.invokevirtual 35, 3) := by decide +kernel
theorem dL_law_234 : decode cL_law 234 = .ok (.if_icmp .eq 453, 3) := by decide +kernel
theorem dL_law_237 : decode cL_law 237 = .ok (.iconst 0, 1) := by decide +kernel
theorem dL_law_238 : decode cL_law 238 = .ok (.ireturn, 1) := by decide +kernel
theorem dL_law_239 : decode cL_law 239 = .ok (.aload_n 1, 1) := by decide +kernel
theorem dL_law_240 : decode cL_law 240 = .ok (.aload_n 0, 1) := by decide +kernel
theorem dL_law_241 : decode cL_law 241 = .ok (.iload_n 3, 1) := by decide +kernel
theorem dL_law_242 : decode cL_law 242 = .ok (.iconst 1, 1) := by decide +kernel
theorem dL_law_243 : decode cL_law 243 = .ok (.iadd, 1) := by decide +kernel
theorem dL_law_244 : decode cL_law 244 = .ok (.iaload, 1) := by decide +kernel
theorem dL_law_245 : decode cL_law 245 = .ok (.aload_n 0, 1) := by decide +kernel
theorem dL_law_246 : decode cL_law 246 = .ok (.iload_n 3, 1) := by decide +kernel
theorem dL_law_247 : decode cL_law 247 = .ok (.iconst 2, 1) := by decide +kernel
theorem dL_law_248 : decode cL_law 248 = .ok (.iadd, 1) := by decide +kernel
theorem dL_law_249 : decode cL_law 249 = .ok (.iaload, 1) := by decide +kernel
theorem dL_law_250 : decode cL_law 250 = .ok (.invokevirtual 36, 3) := by decide +kernel
theorem dL_law_253 : decode cL_law 253 = .ok (.aload_n 2, 1) := by decide +kernel
theorem dL_law_254 : decode cL_law 254 = .ok (.aload_n 0, 1) := by decide +kernel
theorem dL_law_255 : decode cL_law 255 = .ok (.iload_n 3, 1) := by decide +kernel
theorem dL_law_256 : decode cL_law 256 = .ok (.iconst 1, 1) := by decide +kernel
theorem dL_law_257 : decode cL_law 257 = .ok (.iadd, 1) := by decide +kernel
theorem dL_law_258 : decode cL_law 258 = .ok (.iaload, 1) := by decide +kernel
theorem dL_law_259 : decode cL_law 259 = .ok (.aload_n 0, 1) := by decide +kernel
theorem dL_law_260 : decode cL_law 260 = .ok (.iload_n 3, 1) := by decide +kernel
theorem dL_law_261 : decode cL_law 261 = .ok (.iconst 2, 1) := by decide +kernel
theorem dL_law_262 : decode cL_law 262 = .ok (.iadd, 1) := by decide +kernel
theorem dL_law_263 : decode cL_law 263 = .ok (.iaload, 1) := by decide +kernel
theorem dL_law_264 : decode cL_law 264 = .ok (.invokevirtual 39, 3) := by decide +kernel
theorem dL_law_267 : decode cL_law 267 = .ok (.if_icmp .eq 420, 3) := by decide +kernel
theorem dL_law_270 : decode cL_law 270 = .ok (.iconst 0, 1) := by decide +kernel
theorem dL_law_271 : decode cL_law 271 = .ok (.ireturn, 1) := by decide +kernel
theorem dL_law_272 : decode cL_law 272 = .ok (.aload_n 1, 1) := by decide +kernel
theorem dL_law_273 : decode cL_law 273 = .ok (.aload_n 0, 1) := by decide +kernel
theorem dL_law_274 : decode cL_law 274 = .ok (.iload_n 3, 1) := by decide +kernel
theorem dL_law_275 : decode cL_law 275 = .ok (.iconst 1, 1) := by decide +kernel
theorem dL_law_276 : decode cL_law 276 = .ok (.iadd, 1) := by decide +kernel
theorem dL_law_277 : decode cL_law 277 = .ok (.iaload, 1) := by decide +kernel
theorem dL_law_278 : decode cL_law 278 = .ok (.invokevirtual 40, 3) := by decide +kernel
theorem dL_law_281 : decode cL_law 281 = .ok (.aload_n 2, 1) := by decide +kernel
theorem dL_law_282 : decode cL_law 282 = .ok (.aload_n 0, 1) := by decide +kernel
theorem dL_law_283 : decode cL_law 283 = .ok (.iload_n 3, 1) := by decide +kernel
theorem dL_law_284 : decode cL_law 284 = .ok (.iconst 1, 1) := by decide +kernel
theorem dL_law_285 : decode cL_law 285 = .ok (.iadd, 1) := by decide +kernel
theorem dL_law_286 : decode cL_law 286 = .ok (.iaload, 1) := by decide +kernel
theorem dL_law_287 : decode cL_law 287 = .ok (.invokevirtual 43, 3) := by decide +kernel
theorem dL_law_290 : decode cL_law 290 = .ok (.if_icmp .eq 397, 3) := by decide +kernel
theorem dL_law_293 : decode cL_law 293 = .ok (.iconst 0, 1) := by decide +kernel
theorem dL_law_294 : decode cL_law 294 = .ok (.ireturn, 1) := by decide +kernel
theorem dL_law_295 : decode cL_law 295 = .ok (.aload_n 1, 1) := by decide +kernel
theorem dL_law_296 : decode cL_law 296 = .ok (.invokevirtual 44, 3) := by decide +kernel
theorem dL_law_299 : decode cL_law 299 = .ok (.aload_n 2, 1) := by decide +kernel
theorem dL_law_300 : decode cL_law 300 = .ok (.invokevirtual 47, 3) := by decide +kernel
theorem dL_law_303 : decode cL_law 303 = .ok (.if_icmp .eq 384, 3) := by decide +kernel
theorem dL_law_306 : decode cL_law 306 = .ok (.iconst 0, 1) := by decide +kernel
theorem dL_law_307 : decode cL_law 307 = .ok (.ireturn, 1) := by decide +kernel
theorem dL_law_308 : decode cL_law 308 = .ok (.aload_n 1, 1) := by decide +kernel
theorem dL_law_309 : decode cL_law 309 = .ok (.aload_n 0, 1) := by decide +kernel
theorem dL_law_310 : decode cL_law 310 = .ok (.iload_n 3, 1) := by decide +kernel
theorem dL_law_311 : decode cL_law 311 = .ok (.iconst 1, 1) := by decide +kernel
theorem dL_law_312 : decode cL_law 312 = .ok (.iadd, 1) := by decide +kernel
theorem dL_law_313 : decode cL_law 313 = .ok (.iaload, 1) := by decide +kernel
theorem dL_law_314 : decode cL_law 314 = .ok (.aload_n 0, 1) := by decide +kernel
theorem dL_law_315 : decode cL_law 315 = .ok (.iload_n 3, 1) := by decide +kernel
theorem dL_law_316 : decode cL_law 316 = .ok (.iconst 2, 1) := by decide +kernel
theorem dL_law_317 : decode cL_law 317 = .ok (.iadd, 1) := by decide +kernel
theorem dL_law_318 : decode cL_law 318 = .ok (.iaload, 1) := by decide +kernel
theorem dL_law_319 : decode cL_law 319 = .ok (.invokevirtual 48, 3) := by decide +kernel
theorem dL_law_322 : decode cL_law 322 = .ok (.aload_n 2, 1) := by decide +kernel
theorem dL_law_323 : decode cL_law 323 = .ok (.aload_n 0, 1) := by decide +kernel
theorem dL_law_324 : decode cL_law 324 = .ok (.iload_n 3, 1) := by decide +kernel
theorem dL_law_325 : decode cL_law 325 = .ok (.iconst 1, 1) := by decide +kernel
theorem dL_law_326 : decode cL_law 326 = .ok (.iadd, 1) := by decide +kernel
theorem dL_law_327 : decode cL_law 327 = .ok (.iaload, 1) := by decide +kernel
theorem dL_law_328 : decode cL_law 328 = .ok (.aload_n 0, 1) := by decide +kernel
theorem dL_law_329 : decode cL_law 329 = .ok (.iload_n 3, 1) := by decide +kernel
theorem dL_law_330 : decode cL_law 330 = .ok (.iconst 2, 1) := by decide +kernel
theorem dL_law_331 : decode cL_law 331 = .ok (.iadd, 1) := by decide +kernel
theorem dL_law_332 : decode cL_law 332 = .ok (.iaload, 1) := by decide +kernel
theorem dL_law_333 : decode cL_law 333 = .ok (.invokevirtual 51, 3) := by decide +kernel
theorem dL_law_336 : decode cL_law 336 = .ok (.if_icmp .eq 351, 3) := by decide +kernel
theorem dL_law_339 : decode cL_law 339 = .ok (.iconst 0, 1) := by decide +kernel
theorem dL_law_340 : decode cL_law 340 = .ok (.ireturn, 1) := by decide +kernel
theorem dL_law_341 : decode cL_law 341 = .ok (.aload_n 1, 1) := by decide +kernel
theorem dL_law_342 : decode cL_law 342 = .ok (.aload_n 0, 1) := by decide +kernel
theorem dL_law_343 : decode cL_law 343 = .ok (.iload_n 3, 1) := by decide +kernel
theorem dL_law_344 : decode cL_law 344 = .ok (.iconst 1, 1) := by decide +kernel
theorem dL_law_345 : decode cL_law 345 = .ok (.iadd, 1) := by decide +kernel
theorem dL_law_346 : decode cL_law 346 = .ok (.iaload, 1) := by decide +kernel
theorem dL_law_347 : decode cL_law 347 = .ok (.aload_n 0, 1) := by decide +kernel
theorem dL_law_348 : decode cL_law 348 = .ok (.iload_n 3, 1) := by decide +kernel
theorem dL_law_349 : decode cL_law 349 = .ok (.iconst 2, 1) := by decide +kernel
theorem dL_law_350 : decode cL_law 350 = .ok (.iadd, 1) := by decide +kernel
theorem dL_law_351 : decode cL_law 351 = .ok (.iaload, 1) := by decide +kernel
theorem dL_law_352 : decode cL_law 352 = .ok (.invokevirtual 52, 3) := by decide +kernel
theorem dL_law_355 : decode cL_law 355 = .ok (.aload_n 2, 1) := by decide +kernel
theorem dL_law_356 : decode cL_law 356 = .ok (.aload_n 0, 1) := by decide +kernel
theorem dL_law_357 : decode cL_law 357 = .ok (.iload_n 3, 1) := by decide +kernel
theorem dL_law_358 : decode cL_law 358 = .ok (.iconst 1, 1) := by decide +kernel
theorem dL_law_359 : decode cL_law 359 = .ok (.iadd, 1) := by decide +kernel
theorem dL_law_360 : decode cL_law 360 = .ok (.iaload, 1) := by decide +kernel
theorem dL_law_361 : decode cL_law 361 = .ok (.aload_n 0, 1) := by decide +kernel
theorem dL_law_362 : decode cL_law 362 = .ok (.iload_n 3, 1) := by decide +kernel
theorem dL_law_363 : decode cL_law 363 = .ok (.iconst 2, 1) := by decide +kernel
theorem dL_law_364 : decode cL_law 364 = .ok (.iadd, 1) := by decide +kernel
theorem dL_law_365 : decode cL_law 365 = .ok (.iaload, 1) := by decide +kernel
theorem dL_law_366 : decode cL_law 366 = .ok (.invokevirtual 55, 3) := by decide +kernel
theorem dL_law_369 : decode cL_law 369 = .ok (.if_icmp .eq 318, 3) := by decide +kernel
theorem dL_law_372 : decode cL_law 372 = .ok (.iconst 0, 1) := by decide +kernel
theorem dL_law_373 : decode cL_law 373 = .ok (.ireturn, 1) := by decide +kernel
theorem dL_law_374 : decode cL_law 374 = .ok (.aload_n 1, 1) := by decide +kernel
theorem dL_law_375 : decode cL_law 375 = .ok (.invokevirtual 56, 3) := by decide +kernel
theorem dL_law_378 : decode cL_law 378 = .ok (.aload_n 2, 1) := by decide +kernel
theorem dL_law_379 : decode cL_law 379 = .ok (.invokevirtual 59, 3) := by decide +kernel
theorem dL_law_382 : decode cL_law 382 = .ok (.if_icmp .eq 305, 3) := by decide +kernel
theorem dL_law_385 : decode cL_law 385 = .ok (.iconst 0, 1) := by decide +kernel
theorem dL_law_386 : decode cL_law 386 = .ok (.ireturn, 1) := by decide +kernel
theorem dL_law_387 : decode cL_law 387 = .ok (.aload_n 1, 1) := by decide +kernel
theorem dL_law_388 : decode cL_law 388 = .ok (.aload_n 0, 1) := by decide +kernel
theorem dL_law_389 : decode cL_law 389 = .ok (.iload_n 3, 1) := by decide +kernel
theorem dL_law_390 : decode cL_law 390 = .ok (.iconst 1, 1) := by decide +kernel
theorem dL_law_391 : decode cL_law 391 = .ok (.iadd, 1) := by decide +kernel
theorem dL_law_392 : decode cL_law 392 = .ok (.iaload, 1) := by decide +kernel
theorem dL_law_393 : decode cL_law 393 = .ok (.aload_n 0, 1) := by decide +kernel
theorem dL_law_394 : decode cL_law 394 = .ok (.iload_n 3, 1) := by decide +kernel
theorem dL_law_395 : decode cL_law 395 = .ok (.iconst 2, 1) := by decide +kernel
theorem dL_law_396 : decode cL_law 396 = .ok (.iadd, 1) := by decide +kernel
theorem dL_law_397 : decode cL_law 397 = .ok (.iaload, 1) := by decide +kernel
theorem dL_law_398 : decode cL_law 398 = .ok (.invokevirtual 60, 3) := by decide +kernel
theorem dL_law_401 : decode cL_law 401 = .ok (.aload_n 2, 1) := by decide +kernel
theorem dL_law_402 : decode cL_law 402 = .ok (.aload_n 0, 1) := by decide +kernel
theorem dL_law_403 : decode cL_law 403 = .ok (.iload_n 3, 1) := by decide +kernel
theorem dL_law_404 : decode cL_law 404 = .ok (.iconst 1, 1) := by decide +kernel
theorem dL_law_405 : decode cL_law 405 = .ok (.iadd, 1) := by decide +kernel
theorem dL_law_406 : decode cL_law 406 = .ok (.iaload, 1) := by decide +kernel
theorem dL_law_407 : decode cL_law 407 = .ok (.aload_n 0, 1) := by decide +kernel
theorem dL_law_408 : decode cL_law 408 = .ok (.iload_n 3, 1) := by decide +kernel
theorem dL_law_409 : decode cL_law 409 = .ok (.iconst 2, 1) := by decide +kernel
theorem dL_law_410 : decode cL_law 410 = .ok (.iadd, 1) := by decide +kernel
theorem dL_law_411 : decode cL_law 411 = .ok (.iaload, 1) := by decide +kernel
theorem dL_law_412 : decode cL_law 412 = .ok (.invokevirtual 63, 3) := by decide +kernel
theorem dL_law_415 : decode cL_law 415 = .ok (.if_icmp .eq 272, 3) := by decide +kernel
theorem dL_law_418 : decode cL_law 418 = .ok (.iconst 0, 1) := by decide +kernel
theorem dL_law_419 : decode cL_law 419 = .ok (.ireturn, 1) := by decide +kernel
theorem dL_law_420 : decode cL_law 420 = .ok (.aload_n 1, 1) := by decide +kernel
theorem dL_law_421 : decode cL_law 421 = .ok (.invokevirtual 64, 3) := by decide +kernel
theorem dL_law_424 : decode cL_law 424 = .ok (.aload_n 2, 1) := by decide +kernel
theorem dL_law_425 : decode cL_law 425 = .ok (.invokevirtual 67, 3) := by decide +kernel
theorem dL_law_428 : decode cL_law 428 = .ok (.if_icmp .eq 259, 3) := by decide +kernel
theorem dL_law_431 : decode cL_law 431 = .ok (.iconst 0, 1) := by decide +kernel
theorem dL_law_432 : decode cL_law 432 = .ok (.ireturn, 1) := by decide +kernel
theorem dL_law_433 : decode cL_law 433 = .ok (.aload_n 1, 1) := by decide +kernel
theorem dL_law_434 : decode cL_law 434 = .ok (.aload_n 0, 1) := by decide +kernel
theorem dL_law_435 : decode cL_law 435 = .ok (.iload_n 3, 1) := by decide +kernel
theorem dL_law_436 : decode cL_law 436 = .ok (.iconst 1, 1) := by decide +kernel
theorem dL_law_437 : decode cL_law 437 = .ok (.iadd, 1) := by decide +kernel
theorem dL_law_438 : decode cL_law 438 = .ok (.iaload, 1) := by decide +kernel
theorem dL_law_439 : decode cL_law 439 = .ok (.aload_n 0, 1) := by decide +kernel
theorem dL_law_440 : decode cL_law 440 = .ok (.iload_n 3, 1) := by decide +kernel
theorem dL_law_441 : decode cL_law 441 = .ok (.iconst 2, 1) := by decide +kernel
theorem dL_law_442 : decode cL_law 442 = .ok (.iadd, 1) := by decide +kernel
theorem dL_law_443 : decode cL_law 443 = .ok (.iaload, 1) := by decide +kernel
theorem dL_law_444 : decode cL_law 444 = .ok (.invokevirtual 68, 3) := by decide +kernel
theorem dL_law_447 : decode cL_law 447 = .ok (.aload_n 2, 1) := by decide +kernel
theorem dL_law_448 : decode cL_law 448 = .ok (.aload_n 0, 1) := by decide +kernel
theorem dL_law_449 : decode cL_law 449 = .ok (.iload_n 3, 1) := by decide +kernel
theorem dL_law_450 : decode cL_law 450 = .ok (.iconst 1, 1) := by decide +kernel
theorem dL_law_451 : decode cL_law 451 = .ok (.iadd, 1) := by decide +kernel
theorem dL_law_452 : decode cL_law 452 = .ok (.iaload, 1) := by decide +kernel
theorem dL_law_453 : decode cL_law 453 = .ok (.aload_n 0, 1) := by decide +kernel
theorem dL_law_454 : decode cL_law 454 = .ok (.iload_n 3, 1) := by decide +kernel
theorem dL_law_455 : decode cL_law 455 = .ok (.iconst 2, 1) := by decide +kernel
theorem dL_law_456 : decode cL_law 456 = .ok (.iadd, 1) := by decide +kernel
theorem dL_law_457 : decode cL_law 457 = .ok (.iaload, 1) := by decide +kernel
theorem dL_law_458 : decode cL_law 458 = .ok (.invokevirtual 71, 3) := by decide +kernel
theorem dL_law_461 : decode cL_law 461 = .ok (.if_icmp .eq 226, 3) := by decide +kernel
theorem dL_law_464 : decode cL_law 464 = .ok (.iconst 0, 1) := by decide +kernel
theorem dL_law_465 : decode cL_law 465 = .ok (.ireturn, 1) := by decide +kernel
theorem dL_law_466 : decode cL_law 466 = .ok (.aload_n 1, 1) := by decide +kernel
theorem dL_law_467 : decode cL_law 467 = .ok (.aload_n 0, 1) := by decide +kernel
theorem dL_law_468 : decode cL_law 468 = .ok (.iload_n 3, 1) := by decide +kernel
theorem dL_law_469 : decode cL_law 469 = .ok (.iconst 1, 1) := by decide +kernel
theorem dL_law_470 : decode cL_law 470 = .ok (.iadd, 1) := by decide +kernel
theorem dL_law_471 : decode cL_law 471 = .ok (.iaload, 1) := by decide +kernel
theorem dL_law_472 : decode cL_law 472 = .ok (.aload_n 0, 1) := by decide +kernel
theorem dL_law_473 : decode cL_law 473 = .ok (.iload_n 3, 1) := by decide +kernel
theorem dL_law_474 : decode cL_law 474 = .ok (.iconst 2, 1) := by decide +kernel
theorem dL_law_475 : decode cL_law 475 = .ok (.iadd, 1) := by decide +kernel
theorem dL_law_476 : decode cL_law 476 = .ok (.iaload, 1) := by decide +kernel
theorem dL_law_477 : decode cL_law 477 = .ok (.invokevirtual 72, 3) := by decide +kernel
theorem dL_law_480 : decode cL_law 480 = .ok (.aload_n 2, 1) := by decide +kernel
theorem dL_law_481 : decode cL_law 481 = .ok (.aload_n 0, 1) := by decide +kernel
theorem dL_law_482 : decode cL_law 482 = .ok (.iload_n 3, 1) := by decide +kernel
theorem dL_law_483 : decode cL_law 483 = .ok (.iconst 1, 1) := by decide +kernel
theorem dL_law_484 : decode cL_law 484 = .ok (.iadd, 1) := by decide +kernel
theorem dL_law_485 : decode cL_law 485 = .ok (.iaload, 1) := by decide +kernel
theorem dL_law_486 : decode cL_law 486 = .ok (.aload_n 0, 1) := by decide +kernel
theorem dL_law_487 : decode cL_law 487 = .ok (.iload_n 3, 1) := by decide +kernel
theorem dL_law_488 : decode cL_law 488 = .ok (.iconst 2, 1) := by decide +kernel
theorem dL_law_489 : decode cL_law 489 = .ok (.iadd, 1) := by decide +kernel
theorem dL_law_490 : decode cL_law 490 = .ok (.iaload, 1) := by decide +kernel
theorem dL_law_491 : decode cL_law 491 = .ok (.invokevirtual 75, 3) := by decide +kernel
theorem dL_law_494 : decode cL_law 494 = .ok (.if_icmp .eq 193, 3) := by decide +kernel
theorem dL_law_497 : decode cL_law 497 = .ok (.iconst 0, 1) := by decide +kernel
theorem dL_law_498 : decode cL_law 498 = .ok (.ireturn, 1) := by decide +kernel
theorem dL_law_499 : decode cL_law 499 = .ok (.aload_n 1, 1) := by decide +kernel
theorem dL_law_500 : decode cL_law 500 = .ok (.aload_n 0, 1) := by decide +kernel
theorem dL_law_501 : decode cL_law 501 = .ok (.iload_n 3, 1) := by decide +kernel
theorem dL_law_502 : decode cL_law 502 = .ok (.iconst 1, 1) := by decide +kernel
theorem dL_law_503 : decode cL_law 503 = .ok (.iadd, 1) := by decide +kernel
theorem dL_law_504 : decode cL_law 504 = .ok (.iaload, 1) := by decide +kernel
theorem dL_law_505 : decode cL_law 505 = .ok (.aload_n 0, 1) := by decide +kernel
theorem dL_law_506 : decode cL_law 506 = .ok (.iload_n 3, 1) := by decide +kernel
theorem dL_law_507 : decode cL_law 507 = .ok (.iconst 2, 1) := by decide +kernel
theorem dL_law_508 : decode cL_law 508 = .ok (.iadd, 1) := by decide +kernel
theorem dL_law_509 : decode cL_law 509 = .ok (.iaload, 1) := by decide +kernel
theorem dL_law_510 : decode cL_law 510 = .ok (.invokevirtual 76, 3) := by decide +kernel
theorem dL_law_513 : decode cL_law 513 = .ok (.aload_n 2, 1) := by decide +kernel
theorem dL_law_514 : decode cL_law 514 = .ok (.aload_n 0, 1) := by decide +kernel
theorem dL_law_515 : decode cL_law 515 = .ok (.iload_n 3, 1) := by decide +kernel
theorem dL_law_516 : decode cL_law 516 = .ok (.iconst 1, 1) := by decide +kernel
theorem dL_law_517 : decode cL_law 517 = .ok (.iadd, 1) := by decide +kernel
theorem dL_law_518 : decode cL_law 518 = .ok (.iaload, 1) := by decide +kernel
theorem dL_law_519 : decode cL_law 519 = .ok (.aload_n 0, 1) := by decide +kernel
theorem dL_law_520 : decode cL_law 520 = .ok (.iload_n 3, 1) := by decide +kernel
theorem dL_law_521 : decode cL_law 521 = .ok (.iconst 2, 1) := by decide +kernel
theorem dL_law_522 : decode cL_law 522 = .ok (.iadd, 1) := by decide +kernel
theorem dL_law_523 : decode cL_law 523 = .ok (.iaload, 1) := by decide +kernel
theorem dL_law_524 : decode cL_law 524 = .ok (.invokevirtual 79, 3) := by decide +kernel
theorem dL_law_527 : decode cL_law 527 = .ok (.if_icmp .eq 160, 3) := by decide +kernel
theorem dL_law_530 : decode cL_law 530 = .ok (.iconst 0, 1) := by decide +kernel
theorem dL_law_531 : decode cL_law 531 = .ok (.ireturn, 1) := by decide +kernel
theorem dL_law_532 : decode cL_law 532 = .ok (.aload_n 1, 1) := by decide +kernel
theorem dL_law_533 : decode cL_law 533 = .ok (.invokevirtual 80, 3) := by decide +kernel
theorem dL_law_536 : decode cL_law 536 = .ok (.aload_n 2, 1) := by decide +kernel
theorem dL_law_537 : decode cL_law 537 = .ok (.invokevirtual 83, 3) := by decide +kernel
theorem dL_law_540 : decode cL_law 540 = .ok (.if_icmp .eq 147, 3) := by decide +kernel
theorem dL_law_543 : decode cL_law 543 = .ok (.iconst 0, 1) := by decide +kernel
theorem dL_law_544 : decode cL_law 544 = .ok (.ireturn, 1) := by decide +kernel
theorem dL_law_545 : decode cL_law 545 = .ok (.aload_n 1, 1) := by decide +kernel
theorem dL_law_546 : decode cL_law 546 = .ok (.aload_n 0, 1) := by decide +kernel
theorem dL_law_547 : decode cL_law 547 = .ok (.iload_n 3, 1) := by decide +kernel
theorem dL_law_548 : decode cL_law 548 = .ok (.iconst 1, 1) := by decide +kernel
theorem dL_law_549 : decode cL_law 549 = .ok (.iadd, 1) := by decide +kernel
theorem dL_law_550 : decode cL_law 550 = .ok (.iaload, 1) := by decide +kernel
theorem dL_law_551 : decode cL_law 551 = .ok (.invokevirtual 84, 3) := by decide +kernel
theorem dL_law_554 : decode cL_law 554 = .ok (.aload_n 2, 1) := by decide +kernel
theorem dL_law_555 : decode cL_law 555 = .ok (.aload_n 0, 1) := by decide +kernel
theorem dL_law_556 : decode cL_law 556 = .ok (.iload_n 3, 1) := by decide +kernel
theorem dL_law_557 : decode cL_law 557 = .ok (.iconst 1, 1) := by decide +kernel
theorem dL_law_558 : decode cL_law 558 = .ok (.iadd, 1) := by decide +kernel
theorem dL_law_559 : decode cL_law 559 = .ok (.iaload, 1) := by decide +kernel
theorem dL_law_560 : decode cL_law 560 = .ok (.invokevirtual 87, 3) := by decide +kernel
theorem dL_law_563 : decode cL_law 563 = .ok (.if_icmp .eq 124, 3) := by decide +kernel
theorem dL_law_566 : decode cL_law 566 = .ok (.iconst 0, 1) := by decide +kernel
theorem dL_law_567 : decode cL_law 567 = .ok (.ireturn, 1) := by decide +kernel
theorem dL_law_568 : decode cL_law 568 = .ok (.aload_n 1, 1) := by decide +kernel
theorem dL_law_569 : decode cL_law 569 = .ok (.invokevirtual 88, 3) := by decide +kernel
theorem dL_law_572 : decode cL_law 572 = .ok (.aload_n 2, 1) := by decide +kernel
theorem dL_law_573 : decode cL_law 573 = .ok (.invokevirtual 91, 3) := by decide +kernel
theorem dL_law_576 : decode cL_law 576 = .ok (.if_icmp .eq 111, 3) := by decide +kernel
theorem dL_law_579 : decode cL_law 579 = .ok (.iconst 0, 1) := by decide +kernel
theorem dL_law_580 : decode cL_law 580 = .ok (.ireturn, 1) := by decide +kernel
theorem dL_law_581 : decode cL_law 581 = .ok (.aload_n 1, 1) := by decide +kernel
theorem dL_law_582 : decode cL_law 582 = .ok (.aload_n 0, 1) := by decide +kernel
theorem dL_law_583 : decode cL_law 583 = .ok (.iload_n 3, 1) := by decide +kernel
theorem dL_law_584 : decode cL_law 584 = .ok (.iconst 1, 1) := by decide +kernel
theorem dL_law_585 : decode cL_law 585 = .ok (.iadd, 1) := by decide +kernel
theorem dL_law_586 : decode cL_law 586 = .ok (.iaload, 1) := by decide +kernel
theorem dL_law_587 : decode cL_law 587 = .ok (.aload_n 0, 1) := by decide +kernel
theorem dL_law_588 : decode cL_law 588 = .ok (.iload_n 3, 1) := by decide +kernel
theorem dL_law_589 : decode cL_law 589 = .ok (.iconst 2, 1) := by decide +kernel
theorem dL_law_590 : decode cL_law 590 = .ok (.iadd, 1) := by decide +kernel
theorem dL_law_591 : decode cL_law 591 = .ok (.iaload, 1) := by decide +kernel
theorem dL_law_592 : decode cL_law 592 = .ok (.aload_n 0, 1) := by decide +kernel
theorem dL_law_593 : decode cL_law 593 = .ok (.iload_n 3, 1) := by decide +kernel
theorem dL_law_594 : decode cL_law 594 = .ok (.iconst 3, 1) := by decide +kernel
theorem dL_law_595 : decode cL_law 595 = .ok (.iadd, 1) := by decide +kernel
theorem dL_law_596 : decode cL_law 596 = .ok (.iaload, 1) := by decide +kernel
theorem dL_law_597 : decode cL_law 597 = .ok (.invokevirtual 92, 3) := by decide +kernel
theorem dL_law_600 : decode cL_law 600 = .ok (.aload_n 2, 1) := by decide +kernel
theorem dL_law_601 : decode cL_law 601 = .ok (.aload_n 0, 1) := by decide +kernel
theorem dL_law_602 : decode cL_law 602 = .ok (.iload_n 3, 1) := by decide +kernel
theorem dL_law_603 : decode cL_law 603 = .ok (.iconst 1, 1) := by decide +kernel
theorem dL_law_604 : decode cL_law 604 = .ok (.iadd, 1) := by decide +kernel
theorem dL_law_605 : decode cL_law 605 = .ok (.iaload, 1) := by decide +kernel
theorem dL_law_606 : decode cL_law 606 = .ok (.aload_n 0, 1) := by decide +kernel
theorem dL_law_607 : decode cL_law 607 = .ok (.iload_n 3, 1) := by decide +kernel
theorem dL_law_608 : decode cL_law 608 = .ok (.iconst 2, 1) := by decide +kernel
theorem dL_law_609 : decode cL_law 609 = .ok (.iadd, 1) := by decide +kernel
theorem dL_law_610 : decode cL_law 610 = .ok (.iaload, 1) := by decide +kernel
theorem dL_law_611 : decode cL_law 611 = .ok (.aload_n 0, 1) := by decide +kernel
theorem dL_law_612 : decode cL_law 612 = .ok (.iload_n 3, 1) := by decide +kernel
theorem dL_law_613 : decode cL_law 613 = .ok (.iconst 3, 1) := by decide +kernel
theorem dL_law_614 : decode cL_law 614 = .ok (.iadd, 1) := by decide +kernel
theorem dL_law_615 : decode cL_law 615 = .ok (.iaload, 1) := by decide +kernel
theorem dL_law_616 : decode cL_law 616 = .ok (.invokevirtual 96, 3) := by decide +kernel
theorem dL_law_619 : decode cL_law 619 = .ok (.if_icmp .eq 68, 3) := by decide +kernel
theorem dL_law_622 : decode cL_law 622 = .ok (.iconst 0, 1) := by decide +kernel
theorem dL_law_623 : decode cL_law 623 = .ok (.ireturn, 1) := by decide +kernel
theorem dL_law_624 : decode cL_law 624 = .ok (.aload_n 1, 1) := by decide +kernel
theorem dL_law_625 : decode cL_law 625 = .ok (.invokevirtual 97, 3) := by decide +kernel
theorem dL_law_628 : decode cL_law 628 = .ok (.aload_n 2, 1) := by decide +kernel
theorem dL_law_629 : decode cL_law 629 = .ok (.invokevirtual 100, 3) := by decide +kernel
theorem dL_law_632 : decode cL_law 632 = .ok (.if_icmp .eq 55, 3) := by decide +kernel
theorem dL_law_635 : decode cL_law 635 = .ok (.iconst 0, 1) := by decide +kernel
theorem dL_law_636 : decode cL_law 636 = .ok (.ireturn, 1) := by decide +kernel
theorem dL_law_637 : decode cL_law 637 = .ok (.aload_n 1, 1) := by decide +kernel
theorem dL_law_638 : decode cL_law 638 = .ok (.invokevirtual 101, 3) := by decide +kernel
theorem dL_law_641 : decode cL_law 641 = .ok (.aload_n 2, 1) := by decide +kernel
theorem dL_law_642 : decode cL_law 642 = .ok (.invokevirtual 104, 3) := by decide +kernel
theorem dL_law_645 : decode cL_law 645 = .ok (.if_icmp .eq 42, 3) := by decide +kernel
theorem dL_law_648 : decode cL_law 648 = .ok (.iconst 0, 1) := by decide +kernel
theorem dL_law_649 : decode cL_law 649 = .ok (.ireturn, 1) := by decide +kernel
theorem dL_law_650 : decode cL_law 650 = .ok (.aload_n 1, 1) := by decide +kernel
theorem dL_law_651 : decode cL_law 651 = .ok (.aload_n 0, 1) := by decide +kernel
theorem dL_law_652 : decode cL_law 652 = .ok (.iload_n 3, 1) := by decide +kernel
theorem dL_law_653 : decode cL_law 653 = .ok (.iconst 1, 1) := by decide +kernel
theorem dL_law_654 : decode cL_law 654 = .ok (.iadd, 1) := by decide +kernel
theorem dL_law_655 : decode cL_law 655 = .ok (.iaload, 1) := by decide +kernel
theorem dL_law_656 : decode cL_law 656 = .ok (.invokevirtual 105, 3) := by decide +kernel
theorem dL_law_659 : decode cL_law 659 = .ok (.aload_n 2, 1) := by decide +kernel
theorem dL_law_660 : decode cL_law 660 = .ok (.aload_n 0, 1) := by decide +kernel
theorem dL_law_661 : decode cL_law 661 = .ok (.iload_n 3, 1) := by decide +kernel
theorem dL_law_662 : decode cL_law 662 = .ok (.iconst 1, 1) := by decide +kernel
theorem dL_law_663 : decode cL_law 663 = .ok (.iadd, 1) := by decide +kernel
theorem dL_law_664 : decode cL_law 664 = .ok (.iaload, 1) := by decide +kernel
theorem dL_law_665 : decode cL_law 665 = .ok (.invokevirtual 108, 3) := by decide +kernel
theorem dL_law_668 : decode cL_law 668 = .ok (.if_icmp .eq 19, 3) := by decide +kernel
theorem dL_law_671 : decode cL_law 671 = .ok (.iconst 0, 1) := by decide +kernel
theorem dL_law_672 : decode cL_law 672 = .ok (.ireturn, 1) := by decide +kernel
theorem dL_law_673 : decode cL_law 673 = .ok (.aload_n 1, 1) := by decide +kernel
theorem dL_law_674 : decode cL_law 674 = .ok (.invokevirtual 109, 3) := by decide +kernel
theorem dL_law_677 : decode cL_law 677 = .ok (.aload_n 2, 1) := by decide +kernel
theorem dL_law_678 : decode cL_law 678 = .ok (.invokevirtual 113, 3) := by decide +kernel
theorem dL_law_681 : decode cL_law 681 = .ok (.lcmp, 1) := by decide +kernel
theorem dL_law_682 : decode cL_law 682 = .ok (.ifCond .eq 5, 3) := by decide +kernel
theorem dL_law_685 : decode cL_law 685 = .ok (.iconst 0, 1) := by decide +kernel
theorem dL_law_686 : decode cL_law 686 = .ok (.ireturn, 1) := by decide +kernel
theorem dL_law_687 : decode cL_law 687 = .ok (.iinc 3 4, 3) := by decide +kernel
theorem dL_law_690 : decode cL_law 690 = .ok (.goto (-672), 3) := by decide +kernel
theorem dL_law_693 : decode cL_law 693 = .ok (.iconst 1, 1) := by decide +kernel
theorem dL_law_694 : decode cL_law 694 = .ok (.ireturn, 1) := by decide +kernel
end
section
/-! ===== the words of every method: its own code, and gG ===== -/
abbrev mw (y : MethodName) (b : ByteArray) (n : Nat) (r : Option FieldType) : List Cond := Cond.code y b n r :: gG
theorem gG_good {ws : List Cond} (h : ∀ w ∈ ws, w ∈ gG) : GoodIn gG ws := fun w hw => ⟨h w hw, good_of_word (gG_ok w (h w hw))⟩
/-- what the tables say of a method of an object -/
def vfacts (C : String) (y : MethodName) (b : ByteArray) (n : Nat) (r : Option FieldType) (k : Nat) : Prop :=
  (y.cls = C ∧ y.cls ≠ "java/lang/invoke/MethodHandle" ∧ y.cls ≠ "java/lang/invoke/VarHandle" ∧ (parseMethodDescriptor y.desc).map (fun d => d.parameters.length) = some k) ∧ Cond.instanceMethod y ∈ gG ∧ Cond.selects C y y ∈ gG ∧ Cond.initialized C ∈ gG ∧ Cond.code y b n r ∈ gG
/-- what the tables say of a static method -/
def sfacts (C : String) (y : MethodName) (b : ByteArray) (n : Nat) (r : Option FieldType) (k : Nat) : Prop :=
  (y.cls = C ∧ y.cls ≠ "java/lang/invoke/MethodHandle" ∧ y.cls ≠ "java/lang/invoke/VarHandle" ∧ (parseMethodDescriptor y.desc).map (fun d => d.parameters.length) = some k) ∧ Cond.static y ∈ gG ∧ Cond.initialized C ∈ gG ∧ Cond.code y b n r ∈ gG
/-- what the tables say of a constructor -/
def ifacts (C : String) (y : MethodName) (b : ByteArray) (n : Nat) (k : Nat) : Prop :=
  (y.cls = C ∧ y.cls ≠ "java/lang/invoke/MethodHandle" ∧ y.cls ≠ "java/lang/invoke/VarHandle" ∧ (parseMethodDescriptor y.desc).map (fun d => d.parameters.length) = some k) ∧ y.name = "<init>" ∧ Cond.instanceMethod y ∈ gG ∧ Cond.initialized C ∈ gG ∧ Cond.code y b n none ∈ gG
section CW
variable {R : Room} {s : State} {args : Array Value} {own C : String} {idx : Nat} {y : MethodName} {b : ByteArray} {n k : Nat} {r : Option FieldType} {rm : Room} {mc ms : Nat}
theorem cwV_of (hg : ∀ w ∈ gG, w.before args s = true) (hl : Cond.methodLink own idx y ∈ gG) (hy : vfacts C y b n r k) (hrc : rm.cells = mc) (hrs : rm.slots = ms) (hR : rm.frames + 1 ≤ R.frames ∧ 8 + (n + 11) + rm.locals ≤ R.locals) : CallW R s args own C idx y b n r (mw y b n r) rm mc ms k :=
  cwV k hg (gG_good (fun w hw => by
    rcases List.mem_append.mp hw with h | h
    · simp only [List.mem_cons, List.not_mem_nil, or_false] at h
      rcases h with rfl | rfl | rfl | rfl
      · exact hl
      · exact hy.2.1
      · exact hy.2.2.1
      · exact hy.2.2.2.1
    · rcases List.mem_cons.mp h with rfl | h
      · exact hy.2.2.2.2
      · exact h)) rfl hrc hrs hy.1 hR
theorem cwS_of (hg : ∀ w ∈ gG, w.before args s = true) (hl : Cond.methodLink own idx y ∈ gG) (hy : sfacts C y b n r k) (hrc : rm.cells = mc) (hrs : rm.slots = ms) (hR : rm.frames + 1 ≤ R.frames ∧ 8 + (n + 11) + rm.locals ≤ R.locals) : CallB R s args own idx y b n r (mw y b n r) rm mc ms k ∧ (Cond.static y).before args s = true :=
  ⟨callB_of k hg (gG_good (fun w hw => by
    rcases List.mem_cons.mp hw with rfl | h
    · exact hy.2.2.2
    · exact h)) rfl hrc hrs (by rw [hy.1.1]; exact hg _ hy.2.2.1) (hg _ hl) hy.1.2 hR, hg _ hy.2.1⟩
theorem cwI_of (hg : ∀ w ∈ gG, w.before args s = true) (hl : Cond.methodLink own idx y ∈ gG) (hy : ifacts C y b n k) (hrc : rm.cells = mc) (hrs : rm.slots = ms) (hR : rm.frames + 1 ≤ R.frames ∧ 8 + (n + 11) + rm.locals ≤ R.locals) : CallB R s args own idx y b n none (mw y b n none) rm mc ms k ∧ y.name = "<init>" ∧ (Cond.instanceMethod y).before args s = true :=
  cwI k hg (gG_good (fun w hw => by
    rcases List.mem_cons.mp hw with rfl | h
    · exact hy.2.2.2.2
    · exact h)) rfl hrc hrs (by rw [hy.1.1]; exact hg _ hy.2.2.2.1) (hg _ hl) (hg _ hy.2.2.1) hy.2.1 hy.1.2 hR
end CW
/-! ===== what a state knows of the classes, the nest's links and the string ===== -/
def nestF : List (String × Nat × String × String × String × String) := [(RX2, 112, "BirthStreet$Moment", "today", "I", RX2), (RX2, 103, "BirthStreet$Moment", "births", "I", RX2), (RX2, 139, "BirthStreet$Moment", "debts", "I", RX2), (RX2, 162, "BirthStreet$Moment", "heard", "I", RX2), (RX2, 76, "BirthStreet$Moment", "ages", "LBirthStreet$Row;", RX2), (RX2, 115, "BirthStreet$Moment", "pastAges", "LBirthStreet$Row;", RX2), (RX2, 86, "BirthStreet$Moment", "birthsIn", "LBirthStreet$Row;", RX2), (RX2, 142, "BirthStreet$Moment", "debtAmounts", "LBirthStreet$Row;", RX2), (RX2, 145, "BirthStreet$Moment", "debtNumbers", "LBirthStreet$Row;", RX2), (RX2, 165, "BirthStreet$Moment", "heardHouses", "LBirthStreet$Row;", RX2), (RX2, 168, "BirthStreet$Moment", "heardNumbers", "LBirthStreet$Row;", RX2)]
/-- D: the classes' numbers and slots; cI, cB: the classes of int[], byte[]; aS: the string's address -/
def KP (D : va_G) (cI cB : ClassId) (aS : Nat) (U : State) : Prop :=
  va_K D vwCl [(cI, .int), (cB, .byte)] U ∧ (∀ q ∈ nestF, va_Nw (.fieldLinkNest q.1 q.2.1 q.2.2.1 q.2.2.2.1 q.2.2.2.2.1 q.2.2.2.2.2) U) ∧ va_Nw (.methodLinkNest RX2 33 yX0_init RX2) U ∧ vk_R RX2 233 "htmcb" aS U
theorem KP.warm {D : va_G} {cI cB : ClassId} {aS : Nat} {s U : State} (hW : s.WarmedH U.vm) (h : KP D cI cB aS s) : KP D cI cB aS U :=
  ⟨va_K.moved hW.alike h.1, fun q hq => va_Nw.warmF hW (h.2.1 q hq), va_Nw.warmM hW h.2.2.1, vk_R.warm hW h.2.2.2⟩
theorem KP.calling {D : va_G} {cI cB : ClassId} {aS : Nat} {U : State} (g : JFrame) (mk : MethodId) (a : Array Value) (h : KP D cI cB aS U) : KP D cI cB aS (U.calling g mk a) :=
  ⟨va_K.moved (u := U) (U := U.calling g mk a) (Vm.Alike.refl U.vm) h.1, fun q hq => va_Nw.same rfl (u := U) (U := U.calling g mk a) rfl (h.2.1 q hq), va_Nw.same rfl (u := U) (U := U.calling g mk a) rfl h.2.2.1, vk_R.same (u := U) (U := U.calling g mk a) rfl h.2.2.2⟩
/-- a method's start: its arguments, the cells of a world, what the state knows -/
def RP (D : va_G) (cI cB : ClassId) (aS : Nat) (w : va_W) (av : List Value) : Array Value → State → Prop := fun v U => v = av.toArray ∧ va_P D vwCl w U.heap ∧ KP D cI cB aS U
theorem RP.blind {D : va_G} {cI cB : ClassId} {aS : Nat} {w : va_W} {av : List Value} : FrameBlind (RP D cI cB aS w av) := fun a _ g mk q => ⟨q.1, q.2.1, q.2.2.calling g mk a⟩
theorem RP.preS {D : va_G} {cI cB : ClassId} {aS : Nat} {w : va_W} {s : State} {H : Heap} (hK : KP D cI cB aS s) (hP : va_P D vwCl w H) {As : List Value} : PreS s H (RP D cI cB aS w As) As :=
  ⟨RP.blind, fun U hU hW => ⟨rfl, by rw [hU]; exact hP, hK.warm hW⟩⟩
theorem RP.preV {D : va_G} {cI cB : ClassId} {aS : Nat} {w : va_W} {s : State} {H : Heap} (hK : KP D cI cB aS s) (hP : va_P D vwCl w H) {b q0 ci N : Nat} {C : String} {T : u_T} {fs : List Value} (he : w[q0]? = some (b, .inr (ci, fs))) (hc : vwCl[ci]? = some (C, T, N)) {As : List Value} : PreV s H C b (RP D cI cB aS w (.ref b :: As)) As :=
  ⟨RP.blind, va_recv hK.1 hP hc he, fun U hU hW => ⟨rfl, by rw [hU]; exact hP, hK.warm hW⟩⟩
theorem met_of {l : Launch} {y : MethodName} {bts : ByteArray} {n : Nat} {ret : Option FieldType} {rm : Room} {D : va_G} {cI cB : ClassId} {aS : Nat} {w : va_W} {av : List Value} {Qc : Array Value → State → Outcome → State → Prop} {mc ms : Nat} {free : Addr → Prop} (hpl : plainName y.cls = true) (hlen : (lg_sl av).length ≤ n)
    (body : ∀ (p : Program) (e : Env) (s : State) (m : MethodId) (below : List Frame) (meth : Method) (c : Code) (ls : Array Slot), p.tables.exec = Jvm.exec → c.code = bts → meth.sig.returnType = ret → c.maxLocals = n → s.vm.findClass y.cls = some m.cls → (∀ w ∈ gG, w.before av.toArray s = true) → meth.locks = false → (y.name = "<init>" → meth.name = "<init>") → KP D cI cB aS s → va_P D vwCl w s.heap → lv_has ls n (lv_args 0 av) → W p l e rm s m av.toArray below meth c s.heap [] 0 0 (MQ below Qc av.toArray s mc ms free) (F0 m 0 ls [])) :
    Met l y (mw y bts n ret) rm (RP D cI cB aS w av) Qc mc ms free := by
  refine Met.ofW (cc := bts) (maxL := n) (ret := ret) hpl rfl ?_
  intro p e s m args below meth c s₁ B hml hv
  obtain ⟨rfl, hP, hK⟩ := hv
  have hts := atoms_spec (ws := mw y bts n ret) B.pre
  have hl := lv_entry av (n := n) hlen
  rw [lg_entry_eq]
  exact body p e s m below meth c _ B.exec B.bytes B.returns hml (findClass_of_methodNamed B.named) (fun w hw => hts w (List.mem_cons_of_mem _ hw)) B.notSynchronized (fun h => by rw [← h]; exact (name_of_methodNamed B.named B.method).1) hK hP hl
/-! ===== the ends of a reader ===== -/
def bi (P : Prop) [Decidable P] : Int32 := if P then 1 else 0
theorem bi_t {P : Prop} {_ : Decidable P} (h : P) : bi P = 1 := if_pos h
theorem bi_f {P : Prop} {_ : Decidable P} (h : ¬ P) : bi P = 0 := if_neg h
theorem bi_0 {P : Prop} {_ : Decidable P} : bi P = 0 ↔ ¬ P := by
  unfold bi
  by_cases h : P
  · rw [if_pos h]; exact ⟨fun q => absurd q (by decide), fun q => absurd h q⟩
  · rw [if_neg h]; exact ⟨fun _ => h, fun _ => rfl⟩
theorem bi_c {P Q : Prop} {_ : Decidable P} {_ : Decidable Q} (h : P ↔ Q) : bi P = bi Q := by
  by_cases hp : P
  · rw [bi_t hp, bi_t (h.mp hp)]
  · rw [bi_f hp, bi_f (fun q => hp (h.mpr q))]
theorem bi_nar {P : Prop} {_ : Decidable P} : narrow .boolean (.int (bi P)) = .int (bi P) := by
  unfold bi
  split <;> rfl
section ENDS
variable {p : Program} {l : Launch} {e : Env} {R : Room} {s : State} {m : MethodId} {args : Array Value} {below : List Frame} {meth : Method} {c : Code} {cc : ByteArray} {pc : Nat} {ls : Array Slot}
theorem rr_i (hx : p.tables.exec = Jvm.exec) (hb : c.code = cc) (hr : meth.sig.returnType = some .int) (hlocks : meth.locks = false) {v E : Int32} (hdg : decode cc pc = .ok (.ireturn, 1)) (hv : v = E) : W p l e R s m args below meth c s.heap [] 0 0 (MQ below (vp_Si (fun r => r = E)) args s 0 0 (fun _ => False)) (F0 m pc ls [.int v]) :=
  W.iret hx hb hr (fun _ ht _ => ⟨_, rfl, hv, ht⟩) (fun _ h => by cases h) hdg
theorem rr_z (hx : p.tables.exec = Jvm.exec) (hb : c.code = cc) {ty : FieldType} (hr : meth.sig.returnType = some ty) (hlocks : meth.locks = false) {v E : Int32} (hdg : decode cc pc = .ok (.ireturn, 1)) (hn : narrow ty (.int E) = .int E) (hv : v = E) : W p l e R s m args below meth c s.heap [] 0 0 (MQ below (vp_Si (fun r => r = E)) args s 0 0 (fun _ => False)) (F0 m pc ls [.int v]) := by
  subst hv
  exact W.zret hx hb hr hn (fun _ ht _ => ⟨_, rfl, rfl, ht⟩) (fun _ h => by cases h) hdg
theorem rr_l (hx : p.tables.exec = Jvm.exec) (hb : c.code = cc) (hr : meth.sig.returnType = some .long) (hlocks : meth.locks = false) {v E : Int64} (hdg : decode cc pc = .ok (.lreturn, 1)) (hv : v = E) : W p l e R s m args below meth c s.heap [] 0 0 (MQ below (vp_Sl (fun r => r = E)) args s 0 0 (fun _ => False)) (F0 m pc ls [.long v]) :=
  W.lret hx hb hr (fun _ ht _ => ⟨_, rfl, hv, ht⟩) (fun _ h => by cases h) hdg
end ENDS
/-! ===== calls of readers ===== -/
section RCALL
variable {p : Program} {l : Launch} {e : Env} {R : Room} {s : State} {m : MethodId} {args : Array Value} {below : List Frame} {meth : Method} {c : Code} {H : Heap} {locs : List Loc} {cells slots : Nat} {Q : State → Prop}
variable {cc : ByteArray} {pc : Nat} {ls : Array Slot} {rest st : List Value} {nL idx n k : Nat} {own C : String} {y : MethodName} {bts : ByteArray} {ret : Option FieldType} {rm : Room} {Pc : Array Value → State → Prop} {b : Addr} {As : List Value}
theorem rdV {E : Int32} (hx : p.tables.exec = Jvm.exec) (hb : c.code = cc) (hml : c.maxLocals = nL) (hown : s.vm.findClass own = some m.cls) (hg : ∀ w ∈ gG, w.before args s = true) (hM : Met l y (mw y bts n ret) rm Pc (vp_Si (fun r => r = E)) 0 0 (fun _ => False)) (hl : Cond.methodLink own idx y ∈ gG) (hy : vfacts C y bts n ret k) (hR : rm.frames + 1 ≤ R.frames ∧ 8 + (n + 11) + rm.locals ≤ R.locals) (hz : rm.cells = 0 ∧ rm.slots = 0) (hc : cells ≤ R.cells ∧ slots ≤ R.slots) (hp : PreV s H C b Pc As) (hn : As.length = k) (hsz : ls.size = nL) (hst : st = As.reverse ++ .ref b :: rest) (hroom : (rest.map fun v => v.category).sum ≤ 8) (hdg : decode cc pc = .ok (.invokevirtual idx, 3))
    (kk : W p l e R s m args below meth c H locs cells slots Q (F0 m (pc + 3) ls (.int E :: rest))) : W p l e R s m args below meth c H locs cells slots Q (F0 m pc ls st) :=
  vp_callSi (W.runV (As := As) (rest := rest) ⟨hx, hb, hml, hown, hg⟩ hM (cwV_of hg hl hy hz.1 hz.2 hR) hp rfl hn hsz hst (lv_room hroom) hdg hc) (fun r hr => by rw [hr]; exact kk)
theorem rdVl {E : Int64} (hx : p.tables.exec = Jvm.exec) (hb : c.code = cc) (hml : c.maxLocals = nL) (hown : s.vm.findClass own = some m.cls) (hg : ∀ w ∈ gG, w.before args s = true) (hM : Met l y (mw y bts n ret) rm Pc (vp_Sl (fun r => r = E)) 0 0 (fun _ => False)) (hl : Cond.methodLink own idx y ∈ gG) (hy : vfacts C y bts n ret k) (hR : rm.frames + 1 ≤ R.frames ∧ 8 + (n + 11) + rm.locals ≤ R.locals) (hz : rm.cells = 0 ∧ rm.slots = 0) (hc : cells ≤ R.cells ∧ slots ≤ R.slots) (hp : PreV s H C b Pc As) (hn : As.length = k) (hsz : ls.size = nL) (hst : st = As.reverse ++ .ref b :: rest) (hroom : (rest.map fun v => v.category).sum ≤ 8) (hdg : decode cc pc = .ok (.invokevirtual idx, 3))
    (kk : W p l e R s m args below meth c H locs cells slots Q (F0 m (pc + 3) ls (.long E :: rest))) : W p l e R s m args below meth c H locs cells slots Q (F0 m pc ls st) :=
  vp_callSl (W.runV (As := As) (rest := rest) ⟨hx, hb, hml, hown, hg⟩ hM (cwV_of hg hl hy hz.1 hz.2 hR) hp rfl hn hsz hst (lv_room hroom) hdg hc) (fun r hr => by rw [hr]; exact kk)
theorem rdS {E : Int32} (hx : p.tables.exec = Jvm.exec) (hb : c.code = cc) (hml : c.maxLocals = nL) (hown : s.vm.findClass own = some m.cls) (hg : ∀ w ∈ gG, w.before args s = true) (hM : Met l y (mw y bts n ret) rm Pc (vp_Si (fun r => r = E)) 0 0 (fun _ => False)) (hl : Cond.methodLink own idx y ∈ gG) (hy : sfacts C y bts n ret k) (hR : rm.frames + 1 ≤ R.frames ∧ 8 + (n + 11) + rm.locals ≤ R.locals) (hz : rm.cells = 0 ∧ rm.slots = 0) (hc : cells ≤ R.cells ∧ slots ≤ R.slots) (hp : PreS s H Pc As) (hn : As.length = k) (hsz : ls.size = nL) (hst : st = As.reverse ++ rest) (hroom : (rest.map fun v => v.category).sum ≤ 8) (hdg : decode cc pc = .ok (.invokestatic idx, 3))
    (kk : W p l e R s m args below meth c H locs cells slots Q (F0 m (pc + 3) ls (.int E :: rest))) : W p l e R s m args below meth c H locs cells slots Q (F0 m pc ls st) :=
  vp_callSi (W.runS (As := As) (rest := rest) ⟨hx, hb, hml, hown, hg⟩ hM (cwS_of hg hl hy hz.1 hz.2 hR) hp rfl hn hsz hst (lv_room hroom) hdg hc) (fun r hr => by rw [hr]; exact kk)
theorem rdSl {E : Int64} (hx : p.tables.exec = Jvm.exec) (hb : c.code = cc) (hml : c.maxLocals = nL) (hown : s.vm.findClass own = some m.cls) (hg : ∀ w ∈ gG, w.before args s = true) (hM : Met l y (mw y bts n ret) rm Pc (vp_Sl (fun r => r = E)) 0 0 (fun _ => False)) (hl : Cond.methodLink own idx y ∈ gG) (hy : sfacts C y bts n ret k) (hR : rm.frames + 1 ≤ R.frames ∧ 8 + (n + 11) + rm.locals ≤ R.locals) (hz : rm.cells = 0 ∧ rm.slots = 0) (hc : cells ≤ R.cells ∧ slots ≤ R.slots) (hp : PreS s H Pc As) (hn : As.length = k) (hsz : ls.size = nL) (hst : st = As.reverse ++ rest) (hroom : (rest.map fun v => v.category).sum ≤ 8) (hdg : decode cc pc = .ok (.invokestatic idx, 3))
    (kk : W p l e R s m args below meth c H locs cells slots Q (F0 m (pc + 3) ls (.long E :: rest))) : W p l e R s m args below meth c H locs cells slots Q (F0 m pc ls st) :=
  vp_callSl (W.runS (As := As) (rest := rest) ⟨hx, hb, hml, hown, hg⟩ hM (cwS_of hg hl hy hz.1 hz.2 hR) hp rfl hn hsz hst (lv_room hroom) hdg hc) (fun r hr => by rw [hr]; exact kk)
end RCALL
/-! ===== writers: the cells of a world may change, no cell comes ===== -/
/-- the cells of a world -/
def inW (w : va_W) : Nat → Prop := fun q => ∃ (k : Nat) (x : va_E), w[k]? = some (q, x)
def wq {α S : Type} (mk : α → Option Value) (w : va_W) (w1 : S → va_W) (D : va_G) (post : α → S → Prop) : Array Value → State → Outcome → State → Prop := fun _ st o t => (∃ (r : α) (u : S), o = .returned (mk r) ∧ post r u ∧ va_P D vwCl (w1 u) t.heap) ∧ va_F (inW w) st t
abbrev mkI : Int32 → Option Value := fun r => some (.int r)
abbrev mkL : Int64 → Option Value := fun r => some (.long r)
abbrev mkV : Unit → Option Value := fun _ => none
theorem va_D.here {w : va_W} {A : Nat → Prop} (h : va_D A w) : va_D (inW w) w := ⟨h.1, fun k q hq => ⟨k, q.2, hq⟩⟩
/-- the same addresses -/
theorem va_D.addr {A : Nat → Prop} {w w1 : va_W} (h : va_D A w) (e : w1.map (fun q => q.1) = w.map (fun q => q.1)) : va_D A w1 := by
  have key : ∀ (k : Nat) (q : Nat × va_E), w1[k]? = some q → ∃ q0, w[k]? = some q0 ∧ q0.1 = q.1 := by
    intro k q hk
    have h1 : (w1.map (fun q => q.1))[k]? = some q.1 := by rw [List.getElem?_map, hk]; rfl
    rw [e, List.getElem?_map] at h1
    cases h0 : w[k]? with
    | none => rw [h0] at h1; cases h1
    | some q0 => rw [h0] at h1; exact ⟨q0, rfl, Option.some.inj h1⟩
  refine ⟨fun i j x y hi hj hxy => ?_, fun k q hk => ?_⟩
  · obtain ⟨x0, a1, a2⟩ := key i x hi
    obtain ⟨y0, b1, b2⟩ := key j y hj
    exact h.1 i j x0 y0 a1 b1 (by rw [a2, b2]; exact hxy)
  · obtain ⟨q0, a1, a2⟩ := key k q hk
    rw [← a2]
    exact h.2 k q0 a1
theorem inW.addr {w w1 : va_W} (e : w1.map (fun q => q.1) = w.map (fun q => q.1)) {q : Nat} (h : inW w1 q) : inW w q := by
  obtain ⟨k, x, hk⟩ := h
  have h1 : (w1.map (fun q => q.1))[k]? = some q := by rw [List.getElem?_map, hk]; rfl
  rw [e, List.getElem?_map] at h1
  cases h0 : w[k]? with
  | none => rw [h0] at h1; cases h1
  | some q0 =>
    rw [h0] at h1
    have h2 : q0.1 = q := Option.some.inj h1
    exact ⟨k, q0.2, by rw [h0, ← h2]⟩
/-- some cells set, at places -/
def wsets (ws : va_W) : List Nat → va_W → va_W
  | i :: is, x :: xs => wsets (ws.set i x) is xs
  | _, _ => ws
theorem wsets_get : ∀ (is : List Nat) (xs ws : va_W) (k : Nat) (q : Nat × va_E), (wsets ws is xs)[k]? = some q → (∃ j : Nat, is[j]? = some k ∧ xs[j]? = some q) ∨ (ws[k]? = some q ∧ ∀ j : Nat, j < xs.length → is[j]? ≠ some k) ∨ (ws[k]? = some q ∧ ∃ j : Nat, is[j]? = none ∧ j < xs.length)
  | [], [], ws, k, q, h => Or.inr (Or.inl ⟨h, fun j hj => by simp at hj⟩)
  | [], x :: xs, ws, k, q, h => Or.inr (Or.inr ⟨h, 0, rfl, by simp⟩)
  | i :: is, [], ws, k, q, h => Or.inr (Or.inl ⟨h, fun j hj => by simp at hj⟩)
  | i :: is, x :: xs, ws, k, q, h => by
    rcases wsets_get is xs (ws.set i x) k q h with ⟨j, h1, h2⟩ | ⟨h1, h2⟩ | ⟨h1, j, h2, h3⟩
    · exact Or.inl ⟨j + 1, by simpa using h1, by simpa using h2⟩
    · rw [List.getElem?_set] at h1
      by_cases hik : i = k
      · rw [if_pos hik] at h1
        split at h1
        · cases h1
          exact Or.inl ⟨0, by simp [hik], by simp⟩
        · cases h1
      · rw [if_neg hik] at h1
        refine Or.inr (Or.inl ⟨h1, fun j hj => ?_⟩)
        cases j with
        | zero => simpa using hik
        | succ j => simpa using h2 j (by simpa using hj)
    · rw [List.getElem?_set] at h1
      by_cases hik : i = k
      · rw [if_pos hik] at h1
        split at h1
        · cases h1
          exact Or.inl ⟨0, by simp [hik], by simp⟩
        · cases h1
      · rw [if_neg hik] at h1
        exact Or.inr (Or.inr ⟨h1, j + 1, by simpa using h2, by simpa using h3⟩)
/-- behind a call of a writer on some of the world's cells -/
theorem wjoin {A0 : Nat → Prop} {D : va_G} {ws wc w1 : va_W} {H H1 : Heap} (hP : va_P D vwCl ws H) (hD : va_D A0 ws) (is : List Nat) (hC : is.map (fun i => ws[i]?) = wc.map some) (he : w1.map (fun q => q.1) = wc.map (fun q => q.1)) (hP1 : va_P D vwCl w1 H1) (hk : ∀ q : Nat, q < H.size → ¬ inW wc q → H1[q]? = H[q]?) : va_P D vwCl (wsets ws is w1) H1 := by
  have hlen : is.length = w1.length := by
    have h1 := congrArg List.length hC
    have h2 := congrArg List.length he
    simp only [List.length_map] at h1 h2
    omega
  intro k q hq
  rcases wsets_get is w1 ws k q hq with ⟨j, h1, h2⟩ | ⟨h1, h2⟩ | ⟨h1, j, h2, h3⟩
  · exact hP1 j q h2
  · refine (hP k q h1).kept (hk q.1 (hP k q h1).lt (fun hin => ?_))
    obtain ⟨j, x, hj⟩ := hin
    have h3 : (is.map (fun i => ws[i]?))[j]? = some (some (q.1, x)) := by rw [hC, List.getElem?_map, hj]; rfl
    rw [List.getElem?_map] at h3
    cases hi : is[j]? with
    | none => rw [hi] at h3; cases h3
    | some i =>
      rw [hi] at h3
      have h4 : ws[i]? = some (q.1, x) := Option.some.inj h3
      have h5 := hD.1 i k (q.1, x) q h4 h1 rfl
      refine h2 j ?_ (by rw [hi, h5])
      rw [← hlen]
      exact (List.getElem?_eq_some_iff.mp hi).1
  · rw [← hlen] at h3
    rw [List.getElem?_eq_getElem h3] at h2
    cases h2
theorem inW_sub {A0 : Nat → Prop} {ws wc : va_W} (hD : va_D A0 ws) (is : List Nat) (hC : is.map (fun i => ws[i]?) = wc.map some) : ∀ q : Nat, inW wc q → A0 q := by
  intro q h
  obtain ⟨j, x, hj⟩ := h
  have h3 : (is.map (fun i => ws[i]?))[j]? = some (some (q, x)) := by rw [hC, List.getElem?_map, hj]; rfl
  rw [List.getElem?_map] at h3
  cases hi : is[j]? with
  | none => rw [hi] at h3; cases h3
  | some i =>
    rw [hi] at h3
    exact hD.2 i (q, x) (Option.some.inj h3)
theorem inW_all {A0 : Nat → Prop} {ws : va_W} (hD : va_D A0 ws) : ∀ q : Nat, inW ws q → A0 q := fun q h => by
  obtain ⟨j, x, hj⟩ := h
  exact hD.2 j (q, x) hj
section WCALL
variable {p : Program} {l : Launch} {e : Env} {R : Room} {s : State} {m : MethodId} {args : Array Value} {below : List Frame} {meth : Method} {c : Code} {H : Heap} {locs : List Loc} {cells slots : Nat} {Q : State → Prop}
variable {cc : ByteArray} {pc : Nat} {ls : Array Slot} {rest st : List Value} {nL idx n k : Nat} {own C : String} {y : MethodName} {bts : ByteArray} {ret : Option FieldType} {rm : Room} {Pc : Array Value → State → Prop} {b : Addr} {As : List Value} {A0 : Nat → Prop} {H0 : Heap} {D : va_G} {w : va_W}
theorem wrV {α S : Type} {mk : α → Option Value} {w1 : S → va_W} {post : α → S → Prop} (hx : p.tables.exec = Jvm.exec) (hb : c.code = cc) (hml : c.maxLocals = nL) (hown : s.vm.findClass own = some m.cls) (hg : ∀ w ∈ gG, w.before args s = true) (hM : Met l y (mw y bts n ret) rm Pc (wq mk w w1 D post) 0 0 (inW w)) (hl : Cond.methodLink own idx y ∈ gG) (hy : vfacts C y bts n ret k) (hR : rm.frames + 1 ≤ R.frames ∧ 8 + (n + 11) + rm.locals ≤ R.locals) (hz : rm.cells = 0 ∧ rm.slots = 0) (hc : cells ≤ R.cells ∧ slots ≤ R.slots) (hp : PreV s H C b Pc As) (hn : As.length = k) (hsz : ls.size = nL) (hst : st = As.reverse ++ .ref b :: rest) (hroom : (rest.map fun v => v.category).sum ≤ 8) (hdg : decode cc pc = .ok (.invokevirtual idx, 3)) (hS : va_S A0 H0 H locs) (hf : ∀ q, inW w q → A0 q)
    (kk : ∀ (r : α) (u : S) (H1 : Heap) (locs1 : List Loc), post r u → va_P D vwCl (w1 u) H1 → (∀ q : Nat, q < H.size → ¬ inW w q → H1[q]? = H[q]?) → va_S A0 H0 H1 locs1 → W p l e R s m args below meth c H1 locs1 cells slots Q (F0 m (pc + 3) ls ((mk r).toList ++ rest))) : W p l e R s m args below meth c H locs cells slots Q (F0 m pc ls st) := by
  intro T hT X
  obtain ⟨v, st₀, t, T', L, h0, X', hL, e1, ⟨⟨r, u, hv, hpo, hP1⟩, hsz1, hk⟩, stp⟩ := (W.runV (As := As) (rest := rest) ⟨hx, hb, hml, hown, hg⟩ hM (cwV_of hg hl hy hz.1 hz.2 hR) hp rfl hn hsz hst (lv_room hroom) hdg hc) T hT X
  cases hv
  rw [h0] at hsz1 hk
  obtain ⟨t2, a1, b1⟩ := kk r u t.heap (locs ++ L) hpo hP1 hk
    ⟨Nat.le_trans hS.1 hsz1, fun q h1 h2 => by rw [hk q (Nat.lt_of_lt_of_le h1 hS.1) (fun z => h2 (hf q z))]; exact hS.2.1 q h1 h2, fun q hq => by
      rcases List.mem_append.mp hq with h | h
      · exact hS.2.2 q h
      · exact hf _ (hL q h)⟩ T' e1 X'
  exact ⟨t2, stp t2 a1, b1⟩
end WCALL
section WENDS
variable {p : Program} {l : Launch} {e : Env} {R : Room} {s : State} {m : MethodId} {args : Array Value} {below : List Frame} {meth : Method} {c : Code} {cc : ByteArray} {pc : Nat} {ls : Array Slot} {H : Heap} {locs : List Loc} {D : va_G} {w : va_W}
theorem wr_i {S : Type} {w1 : S → va_W} {post : Int32 → S → Prop} (hx : p.tables.exec = Jvm.exec) (hb : c.code = cc) (hr : meth.sig.returnType = some .int) (hlocks : meth.locks = false) (hS : va_S (inW w) s.heap H locs) {v : Int32} (u : S) (hP : va_P D vwCl (w1 u) H) (hdg : decode cc pc = .ok (.ireturn, 1)) (hv : post v u) : W p l e R s m args below meth c H locs 0 0 (MQ below (wq mkI w w1 D post) args s 0 0 (inW w)) (F0 m pc ls [.int v]) :=
  W.iret hx hb hr (fun t ht _ => ⟨⟨v, u, rfl, hv, by rw [ht]; exact hP⟩, hS.F ht⟩) hS.2.2 hdg
theorem wr_l {S : Type} {w1 : S → va_W} {post : Int64 → S → Prop} (hx : p.tables.exec = Jvm.exec) (hb : c.code = cc) (hr : meth.sig.returnType = some .long) (hlocks : meth.locks = false) (hS : va_S (inW w) s.heap H locs) {v : Int64} (u : S) (hP : va_P D vwCl (w1 u) H) (hdg : decode cc pc = .ok (.lreturn, 1)) (hv : post v u) : W p l e R s m args below meth c H locs 0 0 (MQ below (wq mkL w w1 D post) args s 0 0 (inW w)) (F0 m pc ls [.long v]) :=
  W.lret hx hb hr (fun t ht _ => ⟨⟨v, u, rfl, hv, by rw [ht]; exact hP⟩, hS.F ht⟩) hS.2.2 hdg
theorem wr_v {S : Type} {w1 : S → va_W} {post : Unit → S → Prop} (hx : p.tables.exec = Jvm.exec) (hb : c.code = cc) (hr : meth.sig.returnType = none) (hlocks : meth.locks = false) (hS : va_S (inW w) s.heap H locs) (u : S) (hP : va_P D vwCl (w1 u) H) (hdg : decode cc pc = .ok (.return_, 1)) (hv : post () u) : W p l e R s m args below meth c H locs 0 0 (MQ below (wq mkV w w1 D post) args s 0 0 (inW w)) (F0 m pc ls []) :=
  W.vret hx hb hr (fun t ht _ => ⟨⟨(), u, rfl, hv, by rw [ht]; exact hP⟩, hS.F ht⟩) hS.2.2 hdg
end WENDS
end
section
/-! ===== rows over natural numbers: nI k on the stack ===== -/
theorem nI_i1 (j : Nat) : nI j + Int32.ofInt 1 = nI (j + 1) := nI_1 j
theorem ret_t {P : Prop} {_ : Decidable P} (h : P) : nI 1 = bi P := (bi_t h).symm
theorem ret_f {P : Prop} {_ : Decidable P} (h : ¬ P) : nI 0 = bi P := (bi_f h).symm
theorem nI_dec (j : Nat) : nI (j + 1) + Int32.ofInt (-1) = nI j := pk_m1 j
theorem nI_31 {a : Nat} (h : a < 2147483648) : a < 2 ^ 31 := h
section NV
variable {p : Program} {l : Launch} {e : Env} {R : Room} {s : State} {m : MethodId} {args : Array Value} {below : List Frame} {meth : Method} {c : Code} {H : Heap} {locs : List Loc} {cells slots : Nat} {Q : State → Prop}
variable {cc : ByteArray} {pc : Nat} {ls : Array Slot} {rest : List Value}
theorem nv_iadd (hx : p.tables.exec = Jvm.exec) (hb : c.code = cc) {a b : Nat} (hdg : decode cc pc = .ok (.iadd, 1)) (k : W p l e R s m args below meth c H locs cells slots Q (F0 m (pc + 1) ls (.int (nI (a + b)) :: rest))) : W p l e R s m args below meth c H locs cells slots Q (F0 m pc ls (.int (nI b) :: .int (nI a) :: rest)) :=
  lv_iadd hx hb hdg (by rw [nI_add]; exact k)
theorem nv_imul (hx : p.tables.exec = Jvm.exec) (hb : c.code = cc) {a b : Nat} (hdg : decode cc pc = .ok (.imul, 1)) (k : W p l e R s m args below meth c H locs cells slots Q (F0 m (pc + 1) ls (.int (nI (a * b)) :: rest))) : W p l e R s m args below meth c H locs cells slots Q (F0 m pc ls (.int (nI b) :: .int (nI a) :: rest)) :=
  lv_imul hx hb hdg (by rw [pk_mul]; exact k)
theorem nv_isub (hx : p.tables.exec = Jvm.exec) (hb : c.code = cc) {a b : Nat} (hdg : decode cc pc = .ok (.isub, 1)) (h : b ≤ a) (k : W p l e R s m args below meth c H locs cells slots Q (F0 m (pc + 1) ls (.int (nI (a - b)) :: rest))) : W p l e R s m args below meth c H locs cells slots Q (F0 m pc ls (.int (nI b) :: .int (nI a) :: rest)) :=
  lv_isub hx hb hdg (by rw [pk_sub h]; exact k)
theorem nv_idiv (hx : p.tables.exec = Jvm.exec) (hb : c.code = cc) {a b : Nat} (hdg : decode cc pc = .ok (.idiv, 1)) (ha : a < 2147483648) (h0 : 0 < b) (hd : b < 2147483648) (k : W p l e R s m args below meth c H locs cells slots Q (F0 m (pc + 1) ls (.int (nI (a / b)) :: rest))) : W p l e R s m args below meth c H locs cells slots Q (F0 m pc ls (.int (nI b) :: .int (nI a) :: rest)) :=
  lv_idiv hx hb hdg (nI_ne0 h0 hd) (by rw [pk_div ha h0 hd]; exact k)
theorem nv_irem (hx : p.tables.exec = Jvm.exec) (hb : c.code = cc) {a b : Nat} (hdg : decode cc pc = .ok (.irem, 1)) (ha : a < 2147483648) (h0 : 0 < b) (hd : b < 2147483648) (k : W p l e R s m args below meth c H locs cells slots Q (F0 m (pc + 1) ls (.int (nI (a % b)) :: rest))) : W p l e R s m args below meth c H locs cells slots Q (F0 m pc ls (.int (nI b) :: .int (nI a) :: rest)) :=
  lv_irem hx hb hdg (nI_ne0 h0 hd) (by rw [pk_rem ha h0 hd]; exact k)
theorem nv_icmp_eq (hx : p.tables.exec = Jvm.exec) (hb : c.code = cc) {a b : Nat} {off : Int} {tgt : Nat} (hdg : decode cc pc = .ok (.if_icmp .eq off, 3)) (ha : a < 2147483648) (hb1 : b < 2147483648) (ht : (pc : Int) + off = (tgt : Int))
    (kt : a = b → W p l e R s m args below meth c H locs cells slots Q (F0 m tgt ls rest)) (kf : ¬ a = b → W p l e R s m args below meth c H locs cells slots Q (F0 m (pc + 3) ls rest)) : W p l e R s m args below meth c H locs cells slots Q (F0 m pc ls (.int (nI b) :: .int (nI a) :: rest)) :=
  lv_icmp_eq hx hb hdg ht (fun h => kt ((nI_eq ha hb1).mp h)) (fun h => kf (fun q => h ((nI_eq ha hb1).mpr q)))
theorem nv_icmp_ne (hx : p.tables.exec = Jvm.exec) (hb : c.code = cc) {a b : Nat} {off : Int} {tgt : Nat} (hdg : decode cc pc = .ok (.if_icmp .ne off, 3)) (ha : a < 2147483648) (hb1 : b < 2147483648) (ht : (pc : Int) + off = (tgt : Int))
    (kt : ¬ a = b → W p l e R s m args below meth c H locs cells slots Q (F0 m tgt ls rest)) (kf : a = b → W p l e R s m args below meth c H locs cells slots Q (F0 m (pc + 3) ls rest)) : W p l e R s m args below meth c H locs cells slots Q (F0 m pc ls (.int (nI b) :: .int (nI a) :: rest)) :=
  lv_icmp_ne hx hb hdg ht (fun h => kt (fun q => h ((nI_eq ha hb1).mpr q))) (fun h => kf ((nI_eq ha hb1).mp h))
theorem nv_icmp_lt (hx : p.tables.exec = Jvm.exec) (hb : c.code = cc) {a b : Nat} {off : Int} {tgt : Nat} (hdg : decode cc pc = .ok (.if_icmp .lt off, 3)) (ha : a < 2147483648) (hb1 : b < 2147483648) (ht : (pc : Int) + off = (tgt : Int))
    (kt : a < b → W p l e R s m args below meth c H locs cells slots Q (F0 m tgt ls rest)) (kf : b ≤ a → W p l e R s m args below meth c H locs cells slots Q (F0 m (pc + 3) ls rest)) : W p l e R s m args below meth c H locs cells slots Q (F0 m pc ls (.int (nI b) :: .int (nI a) :: rest)) :=
  lv_icmp_lt hx hb hdg ht (fun h => kt ((nI_ltI ha hb1).mp h)) (fun h => kf (Nat.le_of_not_lt (fun q => h ((nI_ltI ha hb1).mpr q))))
theorem nv_icmp_ge (hx : p.tables.exec = Jvm.exec) (hb : c.code = cc) {a b : Nat} {off : Int} {tgt : Nat} (hdg : decode cc pc = .ok (.if_icmp .ge off, 3)) (ha : a < 2147483648) (hb1 : b < 2147483648) (ht : (pc : Int) + off = (tgt : Int))
    (kt : b ≤ a → W p l e R s m args below meth c H locs cells slots Q (F0 m tgt ls rest)) (kf : a < b → W p l e R s m args below meth c H locs cells slots Q (F0 m (pc + 3) ls rest)) : W p l e R s m args below meth c H locs cells slots Q (F0 m pc ls (.int (nI b) :: .int (nI a) :: rest)) :=
  lv_icmp_ge hx hb hdg ht (fun h => kt ((nI_leI hb1 ha).mp h)) (fun h => kf (Nat.lt_of_not_le (fun q => h ((nI_leI hb1 ha).mpr q))))
theorem nv_icmp_gt (hx : p.tables.exec = Jvm.exec) (hb : c.code = cc) {a b : Nat} {off : Int} {tgt : Nat} (hdg : decode cc pc = .ok (.if_icmp .gt off, 3)) (ha : a < 2147483648) (hb1 : b < 2147483648) (ht : (pc : Int) + off = (tgt : Int))
    (kt : b < a → W p l e R s m args below meth c H locs cells slots Q (F0 m tgt ls rest)) (kf : a ≤ b → W p l e R s m args below meth c H locs cells slots Q (F0 m (pc + 3) ls rest)) : W p l e R s m args below meth c H locs cells slots Q (F0 m pc ls (.int (nI b) :: .int (nI a) :: rest)) :=
  lv_icmp_gt hx hb hdg ht (fun h => kt ((nI_ltI hb1 ha).mp h)) (fun h => kf (Nat.le_of_not_lt (fun q => h ((nI_ltI hb1 ha).mpr q))))
theorem nv_icmp_le (hx : p.tables.exec = Jvm.exec) (hb : c.code = cc) {a b : Nat} {off : Int} {tgt : Nat} (hdg : decode cc pc = .ok (.if_icmp .le off, 3)) (ha : a < 2147483648) (hb1 : b < 2147483648) (ht : (pc : Int) + off = (tgt : Int))
    (kt : a ≤ b → W p l e R s m args below meth c H locs cells slots Q (F0 m tgt ls rest)) (kf : b < a → W p l e R s m args below meth c H locs cells slots Q (F0 m (pc + 3) ls rest)) : W p l e R s m args below meth c H locs cells slots Q (F0 m pc ls (.int (nI b) :: .int (nI a) :: rest)) :=
  lv_icmp_le hx hb hdg ht (fun h => kt ((nI_leI ha hb1).mp h)) (fun h => kf (Nat.lt_of_not_le (fun q => h ((nI_leI ha hb1).mpr q))))
theorem nv_if_eq (hx : p.tables.exec = Jvm.exec) (hb : c.code = cc) {a : Nat} {off : Int} {tgt : Nat} (hdg : decode cc pc = .ok (.ifCond .eq off, 3)) (ha : a < 2147483648) (ht : (pc : Int) + off = (tgt : Int))
    (kt : a = 0 → W p l e R s m args below meth c H locs cells slots Q (F0 m tgt ls rest)) (kf : ¬ a = 0 → W p l e R s m args below meth c H locs cells slots Q (F0 m (pc + 3) ls rest)) : W p l e R s m args below meth c H locs cells slots Q (F0 m pc ls (.int (nI a) :: rest)) :=
  lv_if_eq hx hb hdg ht (fun h => kt ((nI_eq (b := 0) ha (by decide)).mp h)) (fun h => kf (fun q => h ((nI_eq (b := 0) ha (by decide)).mpr q)))
theorem nv_if_ne (hx : p.tables.exec = Jvm.exec) (hb : c.code = cc) {a : Nat} {off : Int} {tgt : Nat} (hdg : decode cc pc = .ok (.ifCond .ne off, 3)) (ha : a < 2147483648) (ht : (pc : Int) + off = (tgt : Int))
    (kt : ¬ a = 0 → W p l e R s m args below meth c H locs cells slots Q (F0 m tgt ls rest)) (kf : a = 0 → W p l e R s m args below meth c H locs cells slots Q (F0 m (pc + 3) ls rest)) : W p l e R s m args below meth c H locs cells slots Q (F0 m pc ls (.int (nI a) :: rest)) :=
  lv_if_ne hx hb hdg ht (fun h => kt (fun q => h ((nI_eq (b := 0) ha (by decide)).mpr q))) (fun h => kf ((nI_eq (b := 0) ha (by decide)).mp h))
theorem nv_if_lt (hx : p.tables.exec = Jvm.exec) (hb : c.code = cc) {a : Nat} {off : Int} {tgt : Nat} (hdg : decode cc pc = .ok (.ifCond .lt off, 3)) (ha : a < 2147483648) (ht : (pc : Int) + off = (tgt : Int))
    (kf : W p l e R s m args below meth c H locs cells slots Q (F0 m (pc + 3) ls rest)) : W p l e R s m args below meth c H locs cells slots Q (F0 m pc ls (.int (nI a) :: rest)) :=
  lv_if_lt hx hb hdg ht (fun h => absurd h (nI_pos ha)) (fun _ => kf)
theorem nv_if_ge (hx : p.tables.exec = Jvm.exec) (hb : c.code = cc) {a : Nat} {off : Int} {tgt : Nat} (hdg : decode cc pc = .ok (.ifCond .ge off, 3)) (ha : a < 2147483648) (ht : (pc : Int) + off = (tgt : Int))
    (kt : W p l e R s m args below meth c H locs cells slots Q (F0 m tgt ls rest)) : W p l e R s m args below meth c H locs cells slots Q (F0 m pc ls (.int (nI a) :: rest)) :=
  lv_if_ge hx hb hdg ht (fun _ => kt) (fun h => absurd (nI_pos' ha) h)
theorem nv_if_le (hx : p.tables.exec = Jvm.exec) (hb : c.code = cc) {a : Nat} {off : Int} {tgt : Nat} (hdg : decode cc pc = .ok (.ifCond .le off, 3)) (ha : a < 2147483648) (ht : (pc : Int) + off = (tgt : Int))
    (kt : a = 0 → W p l e R s m args below meth c H locs cells slots Q (F0 m tgt ls rest)) (kf : ¬ a = 0 → W p l e R s m args below meth c H locs cells slots Q (F0 m (pc + 3) ls rest)) : W p l e R s m args below meth c H locs cells slots Q (F0 m pc ls (.int (nI a) :: rest)) :=
  lv_if_le hx hb hdg ht (fun h => kt (Nat.le_zero.mp ((nI_leI (b := 0) ha (by decide)).mp h))) (fun h => kf (fun q => h ((nI_leI (b := 0) ha (by decide)).mpr (by omega))))
theorem bv_if_eq (hx : p.tables.exec = Jvm.exec) (hb : c.code = cc) {P : Prop} {dp : Decidable P} {off : Int} {tgt : Nat} (hdg : decode cc pc = .ok (.ifCond .eq off, 3)) (ht : (pc : Int) + off = (tgt : Int))
    (kt : ¬ P → W p l e R s m args below meth c H locs cells slots Q (F0 m tgt ls rest)) (kf : P → W p l e R s m args below meth c H locs cells slots Q (F0 m (pc + 3) ls rest)) : W p l e R s m args below meth c H locs cells slots Q (F0 m pc ls (.int (bi P) :: rest)) :=
  lv_if_eq hx hb hdg ht (fun h => kt (bi_0.mp h)) (fun h => kf (Decidable.not_not.mp (fun q => h (bi_0.mpr q))))
theorem bv_if_ne (hx : p.tables.exec = Jvm.exec) (hb : c.code = cc) {P : Prop} {dp : Decidable P} {off : Int} {tgt : Nat} (hdg : decode cc pc = .ok (.ifCond .ne off, 3)) (ht : (pc : Int) + off = (tgt : Int))
    (kt : P → W p l e R s m args below meth c H locs cells slots Q (F0 m tgt ls rest)) (kf : ¬ P → W p l e R s m args below meth c H locs cells slots Q (F0 m (pc + 3) ls rest)) : W p l e R s m args below meth c H locs cells slots Q (F0 m pc ls (.int (bi P) :: rest)) :=
  lv_if_ne hx hb hdg ht (fun h => kt (Decidable.not_not.mp (fun q => h (bi_0.mpr q)))) (fun h => kf (bi_0.mp h))
variable {D : va_G} {cl : List vw_C} {A : Nat → Prop} {a : Nat} {tys : List (ClassId × FieldType)} {ws : va_W} {H0 : Heap}
theorem nv_iald (hexec : p.tables.exec = Jvm.exec) (hb : c.code = cc) (hK : va_K D cl tys s) (hP : va_P D cl ws H) (q0 t0 : Nat) {cA : ClassId} {n : Nat} {f : Nat → Int32} (ha : ws[q0]? = some (a, .inl (cA, n, .inl f))) (ht : tys[t0]? = some (cA, .int)) {i : Nat} (hin : i < n) (hn : n < 2147483648) (hdg : decode cc pc = .ok (.iaload, 1))
    (kk : W p l e R s m args below meth c H locs cells slots Q (F0 m (pc + 1) ls (.int (f i) :: rest))) : W p l e R s m args below meth c H locs cells slots Q (F0 m pc ls (.int (nI i) :: .ref a :: rest)) :=
  va_iald hexec hb hK hP q0 t0 ha ht (vp_in_nI hin hn) hdg (by rw [nI_clamp (Nat.lt_trans hin hn)]; exact kk)
theorem nv_bald (hexec : p.tables.exec = Jvm.exec) (hb : c.code = cc) (hK : va_K D cl tys s) (hP : va_P D cl ws H) (q0 t0 : Nat) {cA : ClassId} {n : Nat} {f : Nat → Int32} (ha : ws[q0]? = some (a, .inl (cA, n, .inl f))) (ht : tys[t0]? = some (cA, .byte)) {i : Nat} (hin : i < n) (hn : n < 2147483648) (hdg : decode cc pc = .ok (.baload, 1))
    (kk : W p l e R s m args below meth c H locs cells slots Q (F0 m (pc + 1) ls (.int (f i) :: rest))) : W p l e R s m args below meth c H locs cells slots Q (F0 m pc ls (.int (nI i) :: .ref a :: rest)) :=
  va_bald hexec hb hK hP q0 t0 ha ht (vp_in_nI hin hn) hdg (by rw [nI_clamp (Nat.lt_trans hin hn)]; exact kk)
theorem nv_iast (hexec : p.tables.exec = Jvm.exec) (hb : c.code = cc) (hK : va_K D cl tys s) (hP : va_P D cl ws H) (hD : va_D A ws) (hS : va_S A H0 H locs) (q0 t0 : Nat) {cA : ClassId} {n : Nat} {f : Nat → Int32} (ha : ws[q0]? = some (a, .inl (cA, n, .inl f))) (ht : tys[t0]? = some (cA, .int)) {i : Nat} {x : Int32} (hin : i < n) (hn : n < 2147483648) (hdg : decode cc pc = .ok (.iastore, 1))
    (kk : ∀ (H1 : Heap) (locs1 : List Loc), va_P D cl (ws.set q0 (a, .inl (cA, n, .inl (upd f i x)))) H1 → va_D A (ws.set q0 (a, .inl (cA, n, .inl (upd f i x)))) → va_S A H0 H1 locs1 → W p l e R s m args below meth c H1 locs1 cells slots Q (F0 m (pc + 1) ls rest)) : W p l e R s m args below meth c H locs cells slots Q (F0 m pc ls (.int x :: .int (nI i) :: .ref a :: rest)) :=
  va_iast hexec hb hK hP hD hS q0 t0 ha ht (vp_in_nI hin hn) hdg (by rw [nI_clamp (Nat.lt_trans hin hn)]; exact kk)
theorem nv_bast (hexec : p.tables.exec = Jvm.exec) (hb : c.code = cc) (hK : va_K D cl tys s) (hP : va_P D cl ws H) (hD : va_D A ws) (hS : va_S A H0 H locs) (q0 t0 : Nat) {cA : ClassId} {n : Nat} {f : Nat → Int32} (ha : ws[q0]? = some (a, .inl (cA, n, .inl f))) (ht : tys[t0]? = some (cA, .byte)) {i : Nat} {x : Int32} (hin : i < n) (hn : n < 2147483648) (hdg : decode cc pc = .ok (.bastore, 1))
    (kk : ∀ (H1 : Heap) (locs1 : List Loc), va_P D cl (ws.set q0 (a, .inl (cA, n, .inl (upd f i (vp_nar .byte x))))) H1 → va_D A (ws.set q0 (a, .inl (cA, n, .inl (upd f i (vp_nar .byte x))))) → va_S A H0 H1 locs1 → W p l e R s m args below meth c H1 locs1 cells slots Q (F0 m (pc + 1) ls rest)) : W p l e R s m args below meth c H locs cells slots Q (F0 m pc ls (.int x :: .int (nI i) :: .ref a :: rest)) :=
  va_bast hexec hb hK hP hD hS q0 t0 ha ht (vp_in_nI hin hn) hdg (by rw [nI_clamp (Nat.lt_trans hin hn)]; exact kk)
/-- a loop that changes no cell: j is how often it went round -/
theorem loopR {nL : Nat} (B : Nat) (I : Nat → Prop) (lv : Nat → List (Nat × Value)) {st : List Value} (j0 : Nat) (hj0 : j0 ≤ B) (h0 : I j0) (hl0 : lv_has ls nL (lv j0))
    (body : ∀ (j : Nat) (ls : Array Slot), j ≤ B → I j → lv_has ls nL (lv j) → (∀ ls' : Array Slot, j + 1 ≤ B → I (j + 1) → lv_has ls' nL (lv (j + 1)) → W p l e R s m args below meth c H locs cells slots Q (F0 m pc ls' st)) → W p l e R s m args below meth c H locs cells slots Q (F0 m pc ls st)) : W p l e R s m args below meth c H locs cells slots Q (F0 m pc ls st) := by
  have key : ∀ (d j : Nat) (ls : Array Slot), B - j ≤ d → j ≤ B → I j → lv_has ls nL (lv j) → W p l e R s m args below meth c H locs cells slots Q (F0 m pc ls st) := by
    intro d
    induction d with
    | zero =>
      intro j ls hd hj hI hl
      exact body j ls hj hI hl (fun ls' h _ _ => absurd h (by omega))
    | succ d ih =>
      intro j ls hd hj hI hl
      exact body j ls hj hI hl (fun ls' h hI' hl' => ih (j + 1) ls' (by omega) h hI' hl')
  exact key (B - j0) j0 ls (Nat.le_refl _) hj0 h0 hl0
/-- a loop that changes cells; u is what else the world depends on -/
theorem loopW {nL : Nat} {S : Type} (B : Nat) (I : Nat → S → Prop) (lv : Nat → S → List (Nat × Value)) (wf : Nat → S → va_W) {st : List Value} (j0 : Nat) (u0 : S) (hj0 : j0 ≤ B) (h0 : I j0 u0) (hl0 : lv_has ls nL (lv j0 u0)) (hP0 : va_P D cl (wf j0 u0) H) (hD0 : va_D A (wf j0 u0)) (hS0 : va_S A H0 H locs)
    (body : ∀ (j : Nat) (u : S) (ls : Array Slot) (H : Heap) (locs : List Loc), j ≤ B → I j u → lv_has ls nL (lv j u) → va_P D cl (wf j u) H → va_D A (wf j u) → va_S A H0 H locs → (∀ (u' : S) (ls' : Array Slot) (H' : Heap) (locs' : List Loc), j + 1 ≤ B → I (j + 1) u' → lv_has ls' nL (lv (j + 1) u') → va_P D cl (wf (j + 1) u') H' → va_D A (wf (j + 1) u') → va_S A H0 H' locs' → W p l e R s m args below meth c H' locs' cells slots Q (F0 m pc ls' st)) → W p l e R s m args below meth c H locs cells slots Q (F0 m pc ls st)) : W p l e R s m args below meth c H locs cells slots Q (F0 m pc ls st) := by
  have key : ∀ (d j : Nat) (u : S) (ls : Array Slot) (H : Heap) (locs : List Loc), B - j ≤ d → j ≤ B → I j u → lv_has ls nL (lv j u) → va_P D cl (wf j u) H → va_D A (wf j u) → va_S A H0 H locs → W p l e R s m args below meth c H locs cells slots Q (F0 m pc ls st) := by
    intro d
    induction d with
    | zero =>
      intro j u ls H locs hd hj hI hl hP hD hS
      exact body j u ls H locs hj hI hl hP hD hS (fun _ _ _ _ h _ _ _ _ _ => absurd h (by omega))
    | succ d ih =>
      intro j u ls H locs hd hj hI hl hP hD hS
      exact body j u ls H locs hj hI hl hP hD hS (fun u' ls' H' locs' h hI' hl' hP' hD' hS' => ih (j + 1) u' ls' H' locs' (by omega) h hI' hl' hP' hD' hS')
  exact key (B - j0) j0 u0 ls H locs (Nat.le_refl _) hj0 h0 hl0 hP0 hD0 hS0
end NV
section WCALL2
variable {p : Program} {l : Launch} {e : Env} {R : Room} {s : State} {m : MethodId} {args : Array Value} {below : List Frame} {meth : Method} {c : Code} {H : Heap} {locs : List Loc} {cells slots : Nat} {Q : State → Prop}
variable {cc : ByteArray} {pc : Nat} {ls : Array Slot} {rest st : List Value} {nL idx n k : Nat} {own C : String} {y : MethodName} {bts : ByteArray} {ret : Option FieldType} {rm : Room} {Pc : Array Value → State → Prop} {b : Addr} {As : List Value} {A0 : Nat → Prop} {H0 : Heap} {D : va_G} {w : va_W}
theorem wrVi {S : Type} {w1 : S → va_W} {post : Int32 → S → Prop} (hx : p.tables.exec = Jvm.exec) (hb : c.code = cc) (hml : c.maxLocals = nL) (hown : s.vm.findClass own = some m.cls) (hg : ∀ w ∈ gG, w.before args s = true) (hM : Met l y (mw y bts n ret) rm Pc (wq mkI w w1 D post) 0 0 (inW w)) (hl : Cond.methodLink own idx y ∈ gG) (hy : vfacts C y bts n ret k) (hR : rm.frames + 1 ≤ R.frames ∧ 8 + (n + 11) + rm.locals ≤ R.locals) (hz : rm.cells = 0 ∧ rm.slots = 0) (hc : cells ≤ R.cells ∧ slots ≤ R.slots) (hp : PreV s H C b Pc As) (hn : As.length = k) (hsz : ls.size = nL) (hst : st = As.reverse ++ .ref b :: rest) (hroom : (rest.map fun v => v.category).sum ≤ 8) (hdg : decode cc pc = .ok (.invokevirtual idx, 3)) (hS : va_S A0 H0 H locs) (hf : ∀ q, inW w q → A0 q)
    (kk : ∀ (r : Int32) (u : S) (H1 : Heap) (locs1 : List Loc), post r u → va_P D vwCl (w1 u) H1 → (∀ q : Nat, q < H.size → ¬ inW w q → H1[q]? = H[q]?) → va_S A0 H0 H1 locs1 → W p l e R s m args below meth c H1 locs1 cells slots Q (F0 m (pc + 3) ls (.int r :: rest))) : W p l e R s m args below meth c H locs cells slots Q (F0 m pc ls st) :=
  wrV hx hb hml hown hg hM hl hy hR hz hc hp hn hsz hst hroom hdg hS hf kk
theorem wrVl {S : Type} {w1 : S → va_W} {post : Int64 → S → Prop} (hx : p.tables.exec = Jvm.exec) (hb : c.code = cc) (hml : c.maxLocals = nL) (hown : s.vm.findClass own = some m.cls) (hg : ∀ w ∈ gG, w.before args s = true) (hM : Met l y (mw y bts n ret) rm Pc (wq mkL w w1 D post) 0 0 (inW w)) (hl : Cond.methodLink own idx y ∈ gG) (hy : vfacts C y bts n ret k) (hR : rm.frames + 1 ≤ R.frames ∧ 8 + (n + 11) + rm.locals ≤ R.locals) (hz : rm.cells = 0 ∧ rm.slots = 0) (hc : cells ≤ R.cells ∧ slots ≤ R.slots) (hp : PreV s H C b Pc As) (hn : As.length = k) (hsz : ls.size = nL) (hst : st = As.reverse ++ .ref b :: rest) (hroom : (rest.map fun v => v.category).sum ≤ 8) (hdg : decode cc pc = .ok (.invokevirtual idx, 3)) (hS : va_S A0 H0 H locs) (hf : ∀ q, inW w q → A0 q)
    (kk : ∀ (r : Int64) (u : S) (H1 : Heap) (locs1 : List Loc), post r u → va_P D vwCl (w1 u) H1 → (∀ q : Nat, q < H.size → ¬ inW w q → H1[q]? = H[q]?) → va_S A0 H0 H1 locs1 → W p l e R s m args below meth c H1 locs1 cells slots Q (F0 m (pc + 3) ls (.long r :: rest))) : W p l e R s m args below meth c H locs cells slots Q (F0 m pc ls st) :=
  wrV hx hb hml hown hg hM hl hy hR hz hc hp hn hsz hst hroom hdg hS hf kk
theorem wrVv {S : Type} {w1 : S → va_W} {post : Unit → S → Prop} (hx : p.tables.exec = Jvm.exec) (hb : c.code = cc) (hml : c.maxLocals = nL) (hown : s.vm.findClass own = some m.cls) (hg : ∀ w ∈ gG, w.before args s = true) (hM : Met l y (mw y bts n ret) rm Pc (wq mkV w w1 D post) 0 0 (inW w)) (hl : Cond.methodLink own idx y ∈ gG) (hy : vfacts C y bts n ret k) (hR : rm.frames + 1 ≤ R.frames ∧ 8 + (n + 11) + rm.locals ≤ R.locals) (hz : rm.cells = 0 ∧ rm.slots = 0) (hc : cells ≤ R.cells ∧ slots ≤ R.slots) (hp : PreV s H C b Pc As) (hn : As.length = k) (hsz : ls.size = nL) (hst : st = As.reverse ++ .ref b :: rest) (hroom : (rest.map fun v => v.category).sum ≤ 8) (hdg : decode cc pc = .ok (.invokevirtual idx, 3)) (hS : va_S A0 H0 H locs) (hf : ∀ q, inW w q → A0 q)
    (kk : ∀ (u : S) (H1 : Heap) (locs1 : List Loc), post () u → va_P D vwCl (w1 u) H1 → (∀ q : Nat, q < H.size → ¬ inW w q → H1[q]? = H[q]?) → va_S A0 H0 H1 locs1 → W p l e R s m args below meth c H1 locs1 cells slots Q (F0 m (pc + 3) ls rest)) : W p l e R s m args below meth c H locs cells slots Q (F0 m pc ls st) :=
  wrV hx hb hml hown hg hM hl hy hR hz hc hp hn hsz hst hroom hdg hS hf (fun _ => kk)
end WCALL2
/-- an array's cells are its contents below its length -/
theorem P_congr {D : va_G} {ws : va_W} {H : Heap} {a : Nat} {cA : ClassId} {n : Nat} {f g : Nat → Int32} (hP : va_P D vwCl ws H) (q : Nat) (hq : ws[q]? = some (a, .inl (cA, n, .inl f))) (hfg : ∀ j : Nat, j < n → f j = g j) : va_P D vwCl (ws.set q (a, .inl (cA, n, .inl g))) H := by
  have e : vp_cell cA (n, .inl f) = vp_cell cA (n, .inl g) := by
    rw [vp_cell_i, vp_cell_i]
    unfold arrV
    congr 1
    apply Array.ext
    · simp
    · intro i h1 h2
      simp at h1 h2 ⊢
      exact hfg i h1
  intro k x hk
  rw [List.getElem?_set] at hk
  by_cases hqk : q = k
  · subst hqk
    rw [if_pos rfl] at hk
    split at hk
    · cases hk
      show H[a]? = some (vp_cell cA (n, .inl g))
      rw [← e]
      exact hP q _ hq
    · cases hk
  · rw [if_neg hqk] at hk
    exact hP k x hk
/-- f below i, g from i on -/
def cpF (f g : Nat → Int32) (i : Nat) : Nat → Int32 := fun j => if j < i then f j else g j
theorem cpF_0 {f g : Nat → Int32} : cpF f g 0 = g := by funext j; simp [cpF]
theorem cpF_s {f g : Nat → Int32} {i : Nat} {x : Int32} (h : x = f i) : upd (cpF f g i) i x = cpF f g (i + 1) := by
  funext j
  unfold upd cpF
  by_cases hj : j = i
  · rw [if_pos hj, if_pos (by omega), hj, h]
  · rw [if_neg hj]
    by_cases h1 : j < i
    · rw [if_pos h1, if_pos (by omega)]
    · rw [if_neg h1, if_neg (by omega)]
theorem cpF_at {f g : Nat → Int32} {n j : Nat} (h : j < n) : cpF f g n j = f j := if_pos h
theorem cpF_no {f g : Nat → Int32} {n j : Nat} (h : n ≤ j) : cpF f g n j = g j := if_neg (by omega)
end
section
/-! ===== what the answers are, in numbers: shared by class and reference ===== -/
/-- how many j < n have p -/
def cn (p : Nat → Bool) : Nat → Nat
  | 0 => 0
  | k + 1 => cn p k + (if p k = true then 1 else 0)
theorem cn_t {p : Nat → Bool} {k : Nat} (h : p k = true) : cn p (k + 1) = cn p k + 1 := by simp [cn, h]
theorem cn_f {p : Nat → Bool} {k : Nat} (h : p k = false) : cn p (k + 1) = cn p k := by simp [cn, h]
theorem cn_le (p : Nat → Bool) : ∀ k, cn p k ≤ k
  | 0 => Nat.le_refl 0
  | k + 1 => by
    have := cn_le p k
    simp only [cn]
    split <;> omega
theorem cn_c {p q : Nat → Bool} : ∀ {k : Nat}, (∀ j, j < k → p j = q j) → cn p k = cn q k
  | 0, _ => rfl
  | k + 1, h => by
    simp only [cn]
    rw [cn_c (k := k) (fun j hj => h j (by omega)), h k (by omega)]
/-- the first j of lo, lo+1 .. (n of them) that has p; -1: none -/
def ff (p : Nat → Bool) (lo : Nat) : Nat → Int32
  | 0 => -1
  | n + 1 => if p lo = true then nI lo else ff p (lo + 1) n
theorem ff_0 {p : Nat → Bool} {lo : Nat} : ff p lo 0 = -1 := rfl
theorem ff_t {p : Nat → Bool} {lo n : Nat} (h : p lo = true) : ff p lo (n + 1) = nI lo := by simp [ff, h]
theorem ff_f {p : Nat → Bool} {lo n : Nat} (h : p lo = false) : ff p lo (n + 1) = ff p (lo + 1) n := by simp [ff, h]
theorem ff_go {p : Nat → Bool} {n : Nat} : ∀ {j : Nat}, j ≤ n → (∀ i, i < j → p i = false) → ff p 0 n = ff p j (n - j)
  | 0, _, _ => rfl
  | j + 1, hj, h => by
    rw [ff_go (j := j) (by omega) (fun i hi => h i (by omega)), show n - j = (n - (j + 1)) + 1 by omega, ff_f (h j (by omega))]
theorem ff_at {p : Nat → Bool} {n j : Nat} (hj : j < n) (h : ∀ i, i < j → p i = false) (hp : p j = true) : ff p 0 n = nI j := by
  rw [ff_go (by omega) h, show n - j = (n - j - 1) + 1 by omega, ff_t hp]
theorem ff_no {p : Nat → Bool} {n : Nat} (h : ∀ i, i < n → p i = false) : ff p 0 n = -1 := by
  rw [ff_go (Nat.le_refl n) h, Nat.sub_self, ff_0]
theorem ff_c {p q : Nat → Bool} : ∀ {n lo : Nat}, (∀ j, lo ≤ j → j < lo + n → p j = q j) → ff p lo n = ff q lo n
  | 0, _, _ => rfl
  | n + 1, lo, h => by
    simp only [ff]
    rw [h lo (Nat.le_refl _) (by omega), ff_c (n := n) (lo := lo + 1) (fun j h1 h2 => h j (by omega) (by omega))]
theorem ff_cases (p : Nat → Bool) : ∀ (n lo : Nat), (ff p lo n = -1 ∧ ∀ j, lo ≤ j → j < lo + n → p j = false) ∨ ∃ j, lo ≤ j ∧ j < lo + n ∧ ff p lo n = nI j ∧ p j = true ∧ ∀ i, lo ≤ i → i < j → p i = false
  | 0, lo => Or.inl ⟨rfl, fun j h1 h2 => by omega⟩
  | n + 1, lo => by
    by_cases h : p lo = true
    · exact Or.inr ⟨lo, Nat.le_refl _, by omega, ff_t h, h, fun i h1 h2 => by omega⟩
    · have h := Bool.eq_false_iff.mpr h
      rcases ff_cases p n (lo + 1) with ⟨h1, h2⟩ | ⟨j, h1, h2, h3, h4, h5⟩
      · refine Or.inl ⟨by rw [ff_f h]; exact h1, fun j a b => ?_⟩
        by_cases hj : j = lo
        · rw [hj]; exact h
        · exact h2 j (by omega) (by omega)
      · refine Or.inr ⟨j, by omega, by omega, by rw [ff_f h]; exact h3, h4, fun i a b => ?_⟩
        by_cases hi : i = lo
        · rw [hi]; exact h
        · exact h5 i (by omega) (by omega)
/-- the sum of f below n -/
def sm (f : Nat → Int32) : Nat → Int32
  | 0 => nI 0
  | k + 1 => sm f k + f k
theorem sm_c {f g : Nat → Int32} : ∀ {k : Nat}, (∀ j, j < k → f j = g j) → sm f k = sm g k
  | 0, _ => rfl
  | k + 1, h => by
    simp only [sm]
    rw [sm_c (k := k) (fun j hj => h j (by omega)), h k (by omega)]
/-- all j < n have p -/
def al (p : Nat → Bool) : Nat → Bool
  | 0 => true
  | k + 1 => al p k && p k
theorem al_iff {p : Nat → Bool} : ∀ {n : Nat}, al p n = true ↔ ∀ j, j < n → p j = true
  | 0 => ⟨fun _ j hj => by omega, fun _ => rfl⟩
  | n + 1 => by
    simp only [al, Bool.and_eq_true]
    rw [al_iff (n := n)]
    refine ⟨fun h j hj => ?_, fun h => ⟨fun j hj => h j (by omega), h n (by omega)⟩⟩
    by_cases hjn : j = n
    · rw [hjn]; exact h.2
    · exact h.1 j (by omega)
theorem al_no {p : Nat → Bool} {n j : Nat} (hj : j < n) (h : p j = false) : al p n = false := by
  rw [Bool.eq_false_iff]
  intro q
  rw [al_iff.mp q j hj] at h
  cases h
theorem al_c {p q : Nat → Bool} {n : Nat} (h : ∀ j, j < n → p j = q j) : al p n = al q n := by
  rw [Bool.eq_iff_iff, al_iff, al_iff]
  exact ⟨fun a j hj => by rw [← h j hj]; exact a j hj, fun a j hj => by rw [h j hj]; exact a j hj⟩
/-- the greatest of f below n, 0 at least -/
def mxF (f : Nat → Nat) : Nat → Nat
  | 0 => 0
  | k + 1 => max (mxF f k) (f k)
theorem mxF_le {f : Nat → Nat} {b : Nat} : ∀ {n : Nat}, (∀ j, j < n → f j ≤ b) → mxF f n ≤ b
  | 0, _ => Nat.zero_le _
  | n + 1, h => Nat.max_le.mpr ⟨mxF_le (fun j hj => h j (by omega)), h n (by omega)⟩
theorem mxF_ge {f : Nat → Nat} : ∀ {n j : Nat}, j < n → f j ≤ mxF f n
  | 0, _, h => by omega
  | n + 1, j, h => by
    by_cases hj : j = n
    · rw [hj]; exact Nat.le_max_right _ _
    · exact Nat.le_trans (mxF_ge (n := n) (j := j) (by omega)) (Nat.le_max_left _ _)
/-- a house's place is told by x -/
abbrev hIn (n : Nat) (x : Int32) : Prop := nI 0 ≤ x ∧ x < nI n
theorem hIn_of {n : Nat} {x : Int32} (h : hIn n x) (hn : n < 2147483648) : ∃ j : Nat, j < n ∧ x = nI j := by
  rcases pk_ix x (n := n) hn with h1 | h1 | h1
  · exact absurd h1 (Int32.not_lt.mpr h.1)
  · exact absurd h.2 (Int32.not_lt.mpr h1)
  · exact h1
theorem hIn_nI {n j : Nat} (hj : j < n) (hn : n < 2147483648) : hIn n (nI j) := ⟨nI_pos' (by omega), nI_lt hj hn⟩
theorem hIn_iff {n j : Nat} (hj : j < 2147483648) (hn : n < 2147483648) : hIn n (nI j) ↔ j < n := ⟨fun h => (nI_ltI hj hn).mp h.2, fun h => hIn_nI h hn⟩
/-- a house's number by its kind and age -/
def numF (k a : Int32) : Int32 := if k = nI 1 then a / nI 2 else a
def nmF (kd ag : Nat → Int32) (j : Nat) : Int32 := numF (kd j) (ag j)
/-- the age a day later -/
def nxF (k a : Int32) : Int32 := if k = nI 4 then a else a + nI 1
abbrev mayB (k : Int32) : Prop := ¬ (k = nI 2 ∨ k = nI 4)
abbrev lendF (n : Nat) (kd : Nat → Int32) (h : Nat) : Prop := h + 1 < n ∧ kd (h + 1) = nI 3
def bearF (n : Nat) (kd ag : Nat → Int32) (h : Nat) : Nat → Int32 := if lendF n kd h then upd (upd ag h (nI 0)) (h + 1) (nI 0) else upd ag h (nI 0)
/-- the places below k are a day older -/
def groF (kd ag : Nat → Int32) (k : Nat) : Nat → Int32 := fun j => if j < k then nxF (kd j) (ag j) else ag j
/-- the place in the walk -/
def ordP (v : Nat → Int32) (h : Nat) (j : Nat) : Bool := decide (v j < v h ∨ v j = v h ∧ j < h)
def ordF (n : Nat) (v : Nat → Int32) (h : Nat) : Nat := cn (ordP v h) n
theorem ordF_le {n : Nat} {v : Nat → Int32} {h : Nat} : ordF n v h ≤ n := cn_le _ _
/-- the house of a turn (0: none) -/
def hotF (n : Nat) (v : Nat → Int32) (t : Nat) : Nat → Nat
  | 0 => 0
  | k + 1 => if ordF n v (n - (k + 1)) = t then n - (k + 1) else hotF n v t k
def dstF (a b : Nat) : Nat := if b < a then a - b else b - a
def wkP (n : Nat) (v : Nat → Int32) : Nat → Nat
  | 0 => 0
  | t + 1 => hotF n v t n
def wkF (n : Nat) (v : Nat → Int32) : Nat → Nat
  | 0 => 0
  | t + 1 => wkF n v t + dstF (hotF n v t n) (wkP n v t)
/-- a house's number in the end of day d -/
def ageOn (ag pa : Nat → Int32) (td h d : Nat) : Int32 := if d = td then ag h else pa (6 * d + h)
def numOn (kd ag pa : Nat → Int32) (td h d : Nat) : Int32 := numF (kd h) (ageOn ag pa td h d)
/-- the house of least place with a number -/
def hwP (v : Nat → Int32) (x : Int32) (h : Nat) : Bool := decide (v h = x)
def hwF (n : Nat) (v : Nat → Int32) (x : Int32) : Int32 := ff (hwP v x) 0 n
/-- what a house owes -/
def owF (n : Nat) (v : Nat → Int32) (dm dn : Nat → Int32) (nd h : Nat) : Int32 := sm (fun k => if hwF n v (dn k) = nI h then dm k else nI 0) nd
def owA (n : Nat) (v : Nat → Int32) (dm dn : Nat → Int32) (nd : Nat) : Int32 := sm (fun h => owF n v dm dn nd h) n
def unF (n : Nat) (v : Nat → Int32) : Nat := cn (fun h => decide (hwF n v (v h) = nI h)) n
/-- when -/
def agF (k a : Int32) (d : Nat) : Int32 := if k = nI 4 then a else a + nI d
def whF (k a x : Int32) : Int32 := ff (fun d => decide (numF k (agF k a d) = x)) 0 100
/-- can a day be the one of which all is heard -/
def cbP (kd ag pa hh hn : Nat → Int32) (td d k : Nat) : Bool := decide (numOn kd ag pa td (hh k).toNatClampNeg d = hn k)
def cbF (kd ag pa hh hn : Nat → Int32) (td nh d : Nat) : Bool := al (cbP kd ag pa hh hn td d) nh
abbrev hOK (n : Nat) (hh : Nat → Int32) (nh : Nat) : Prop := ∀ k, k < nh → (hh k).toNatClampNeg < n ∧ hh k = nI (hh k).toNatClampNeg
/-- how many j of lo, lo+1 .. (n of them) have p -/
def cr (p : Nat → Bool) (lo : Nat) : Nat → Nat
  | 0 => 0
  | n + 1 => cr p (lo + 1) n + (if p lo = true then 1 else 0)
/-- about, as, then, goesTo, when, days, ask, count -/
def abF (n : Nat) (kd ag bo dm dn : Nat → Int32) (nd h : Nat) : Nat → Int32
  | 0 => kd h
  | 1 => ag h
  | 2 => nmF kd ag h
  | 3 => bo h
  | 4 => owF n (nmF kd ag) dm dn nd h
  | _ => nI (ordF n (nmF kd ag) h)
abbrev x_in (x : Int32) (k : Nat) : Prop := nI 0 ≤ x ∧ x ≤ nI k
abbrev dIn (n td : Nat) (d : Int32) : Prop := 0 < n ∧ nI 0 ≤ d ∧ d ≤ nI td
def abtF (n : Nat) (kd ag bo dm dn : Nat → Int32) (nd : Nat) (x w : Int32) : Int32 := if hIn n x then (if x_in w 5 then abF n kd ag bo dm dn nd x.toNatClampNeg w.toNatClampNeg else -102) else -101
def asF (n : Nat) (kd : Nat → Int32) (x k : Int32) : Int32 := if hIn n x then (if x_in k 4 then (if k = nI 0 ∨ kd x.toNatClampNeg = k ∨ k = nI 2 ∧ kd x.toNatClampNeg = nI 4 then x else -1) else -102) else -101
def thF (n td : Nat) (kd ag pa : Nat → Int32) (x d : Int32) : Int32 := if hIn n x ∧ dIn n td d then numOn kd ag pa td x.toNatClampNeg d.toNatClampNeg else -101
def goF (n td : Nat) (kd ag pa : Nat → Int32) (x d : Int32) : Int32 := if dIn n td d then hwF n (fun h => numOn kd ag pa td h d.toNatClampNeg) x else -101
def whnF (n : Nat) (kd ag : Nat → Int32) (x y : Int32) : Int32 := if hIn n x then whF (kd x.toNatClampNeg) (ag x.toNatClampNeg) y else -101
def dyF (cb : Nat → Bool) (td : Nat) (w : Int32) : Int32 := if w = nI 0 then nI (cn cb (td + 1)) else ff cb 0 (td + 1)
def dysF (n : Nat) (cb : Nat → Bool) (td : Nat) (w : Int32) : Int32 := if x_in w 1 then (if n = 0 then -103 else dyF cb td w) else -102
/-- how many days can be that have the number of day a (v: the house's numbers) -/
def woQ (cb : Nat → Bool) (v : Nat → Int32) (a b : Nat) : Bool := cb b && decide (v a = v b)
def woP (cb : Nat → Bool) (v : Nat → Int32) (td a : Nat) : Nat := if cb a = true then cn (woQ cb v a) (td + 1) else 0
def woF (cb : Nat → Bool) (v : Nat → Int32) (td : Nat) : Nat := mxF (woP cb v td) (td + 1)
def asL (w : Nat → Nat) (f0 : Nat) : Nat → Nat
  | 0 => f0
  | h + 1 => if w h < asL w f0 h then w h else asL w f0 h
def asB (w : Nat → Nat) (f0 : Nat) : Nat → Int32
  | 0 => -1
  | h + 1 => if w h < asL w f0 h then nI h else asB w f0 h
abbrev nOf (kd ag pa : Nat → Int32) (td h : Nat) : Nat → Int32 := fun d => numOn kd ag pa td h d
def f0F (cb : Nat → Bool) (td : Nat) : Nat := if cn cb (td + 1) = 0 then 0 else 268435456
def askF (n : Nat) (kd ag pa : Nat → Int32) (cb : Nat → Bool) (td : Nat) : Int32 := asB (fun h => woF cb (nOf kd ag pa td h) td) (f0F cb td) n
def hmF (n td : Nat) (bs : Int32) (kd ag dm dn : Nat → Int32) (nd nh pl st : Nat) : Nat → Int32
  | 0 => nI n
  | 1 => nI td
  | 2 => bs
  | 3 => sm (nmF kd ag) n
  | 4 => nI (unF n (nmF kd ag))
  | 5 => nI nd
  | 6 => owA n (nmF kd ag) dm dn nd
  | 7 => nI nh
  | 8 => nI pl
  | _ => nI st
def cntF (n td : Nat) (bs : Int32) (kd ag dm dn : Nat → Int32) (nd nh pl st : Nat) (w : Int32) : Int32 := if x_in w 9 then hmF n td bs kd ag dm dn nd nh pl st w.toNatClampNeg else -102
/-- is a house in a set -/
abbrev biS (set h : Nat) : Prop := set.testBit h = true
def popF (set : Nat) : Nat := cn (fun k => set.testBit k) 6
/-- the page: the first place that does not have p (lo + n: none) -/
def fz (p : Nat → Bool) (lo : Nat) : Nat → Nat
  | 0 => lo
  | n + 1 => if p lo = true then fz p (lo + 1) n else lo
def kindF (c : Nat) : Int32 := if c = 104 then 0 else if c = 116 then 1 else if c = 109 then 2 else if c = 99 then 3 else if c = 98 then 4 else -1
abbrev pgOK (pg : Nat → Int32) (pl : Nat) : Prop := ∀ k, k < pl → pg k = nI (pg k).toNatClampNeg ∧ 32 ≤ (pg k).toNatClampNeg ∧ (pg k).toNatClampNeg ≤ 126
/-- a letter may be at its place -/
def gdM (pg : Nat → Int32) (k : Nat) : Bool := if k % 3 = 0 then !decide (kindF (pg k).toNatClampNeg = -1) else if k % 3 = 1 then decide (48 ≤ (pg k).toNatClampNeg ∧ (pg k).toNatClampNeg ≤ 57) else decide ((pg k).toNatClampNeg = 44 ∧ k < 17)
def gdX (k c : Nat) : Bool := decide (k < 17) && (if k % 3 = 0 then !decide (kindF c = -1) else if k % 3 = 1 then decide (48 ≤ c ∧ c ≤ 57) else decide (c = 44))
def ftF (pg : Nat → Int32) (pl : Nat) : Nat := fz (fun k => gdX k (pg k).toNatClampNeg) 0 pl
end
section
/-! ===== facts of numbers for the walks ===== -/
theorem x_in_of {x : Int32} {k : Nat} (h : x_in x k) (hk : k < 2147483647) : ∃ w : Nat, w ≤ k ∧ x = nI w := by
  rcases pk_ix x (n := k + 1) (by omega) with h1 | h1 | ⟨j, h1, h2⟩
  · exact absurd h1 (Int32.not_lt.mpr h.1)
  · exact absurd (Int32.le_trans h1 h.2) (nI_ge (Nat.lt_succ_self k) (by omega))
  · exact ⟨j, by omega, h2⟩
theorem x_in_nI {w k : Nat} (h : w ≤ k) (hk : k < 2147483648) : x_in (nI w) k := ⟨nI_pos' (by omega), nI_le h hk⟩
theorem x_out {x : Int32} {k : Nat} (h : ¬ x_in x k) (hk : k < 2147483648) : x.toInt < 0 ∨ (k : Int) < x.toInt := by
  have e := nI_toInt (n := k) hk
  rcases Classical.em (0 ≤ x) with h0 | h0
  · refine Or.inr ?_
    have h1 : ¬ x ≤ nI k := fun q => h ⟨h0, q⟩
    rw [Int32.le_iff_toInt_le, e] at h1
    omega
  · refine Or.inl ?_
    rw [Int32.le_iff_toInt_le] at h0
    have : (0 : Int32).toInt = 0 := rfl
    omega
theorem isH_iff {n : Nat} {x : Int32} (h : n ≤ 6) : (nI 0 ≤ x ∧ x ≤ nI n - nI 1) ↔ hIn n x := by
  by_cases h0 : n = 0
  · subst h0
    refine ⟨fun q => ?_, fun q => ?_⟩
    · have := Int32.le_trans q.1 q.2
      exact absurd this (by decide)
    · exact absurd q.2 (Int32.not_lt.mpr q.1)
  · rw [pk_sub (show 1 ≤ n by omega)]
    refine ⟨fun q => ⟨q.1, ?_⟩, fun q => ⟨q.1, ?_⟩⟩
    · exact Int32.lt_of_le_of_lt q.2 (nI_lt (by omega) (by omega))
    · obtain ⟨j, hj, rfl⟩ := hIn_of q (by omega)
      exact nI_le (by omega) (by omega)
theorem dec_eq (k : Nat) : nI k + Int32.ofInt (-1) = nI k - nI 1 := by
  rw [Int32.sub_eq_add_neg]; rfl
theorem sub1_pos {m : Nat} (h : m < 2147483648) (hn : ¬ nI m - nI 1 < 0) : ∃ k, m = k + 1 := by
  cases m with
  | zero => exact absurd (by decide) hn
  | succ k => exact ⟨k, rfl⟩
theorem sub1_neg {m : Nat} (h : m < 2147483648) (hn : nI m - nI 1 < 0) : m = 0 := by
  cases m with
  | zero => rfl
  | succ k =>
    rw [pk_sub (show 1 ≤ k + 1 by omega)] at hn
    exact absurd hn (nI_pos (by omega))
theorem sub1_s (k : Nat) : nI (k + 1) - nI 1 = nI k := pk_sub (by omega)
/-- pigeons: an injective map of n places into n places meets every place -/
theorem pig : ∀ (n : Nat) (f : Nat → Nat), (∀ i, i < n → f i < n) → (∀ i j, i < n → j < n → f i = f j → i = j) → ∀ t, t < n → ∃ i, i < n ∧ f i = t
  | 0, _, _, _, t, ht => by omega
  | n + 1, f, hr, hi, t, ht => by
    by_cases hl : f n = t
    · exact ⟨n, by omega, hl⟩
    -- g: f with n moved to where f n was
    have hg := pig n (fun i => if f i = n then f n else f i)
      (fun i hin => by
        by_cases h : f i = n
        · simp only [h, if_true]
          have h1 := hr n (by omega)
          have h2 : f n ≠ n := fun q => absurd (hi i n (by omega) (by omega) (by omega)) (by omega)
          omega
        · simp only [h, if_false]
          have := hr i (by omega)
          omega)
      (fun i j hin hjn he => by
        by_cases h1 : f i = n <;> by_cases h2 : f j = n
        · exact hi i j (by omega) (by omega) (by omega)
        · simp only [h1, h2, if_true, if_false] at he
          exact absurd (hi n j (by omega) (by omega) he) (by omega)
        · simp only [h1, h2, if_true, if_false] at he
          exact absurd (hi i n (by omega) (by omega) he) (by omega)
        · simp only [h1, h2, if_false] at he
          exact hi i j (by omega) (by omega) he)
    by_cases htn : t = n
    · -- some i < n with f i = n, or f n = n
      by_cases hfn : f n = n
      · exact ⟨n, by omega, by omega⟩
      · have hfl : f n < n := by have := hr n (by omega); omega
        obtain ⟨i, h1, h2⟩ := hg (f n) hfl
        by_cases h : f i = n
        · exact ⟨i, by omega, by omega⟩
        · simp only [h, if_false] at h2
          exact absurd (hi i n (by omega) (by omega) h2) (by omega)
    · obtain ⟨i, h1, h2⟩ := hg t (by omega)
      by_cases h : f i = n
      · simp only [h, if_true] at h2
        exact absurd h2 hl
      · simp only [h, if_false] at h2
        exact ⟨i, by omega, h2⟩
theorem cn_mono {p q : Nat → Bool} : ∀ {k : Nat}, (∀ j, j < k → p j = true → q j = true) → cn p k ≤ cn q k
  | 0, _ => Nat.le_refl _
  | k + 1, h => by
    have h1 := cn_mono (k := k) (fun j hj => h j (by omega))
    simp only [cn]
    by_cases hp : p k = true
    · rw [if_pos hp, if_pos (h k (by omega) hp)]; omega
    · rw [if_neg hp]; omega
theorem cn_lt {p q : Nat → Bool} : ∀ {k i : Nat}, i < k → p i = false → q i = true → (∀ j, j < k → p j = true → q j = true) → cn p k < cn q k
  | 0, i, hi, _, _, _ => by omega
  | k + 1, i, hi, hp, hq, h => by
    simp only [cn]
    by_cases hik : i = k
    · subst hik
      have := cn_mono (k := i) (p := p) (q := q) (fun j hj => h j (by omega))
      rw [if_neg (by rw [hp]; decide), if_pos hq]; omega
    · have h1 := cn_lt (k := k) (i := i) (by omega) hp hq (fun j hj => h j (by omega))
      by_cases hp2 : p k = true
      · rw [if_pos hp2, if_pos (h k (by omega) hp2)]; omega
      · rw [if_neg hp2]; omega
theorem cn_all_lt {p : Nat → Bool} {k i : Nat} (hi : i < k) (hp : p i = false) : cn p k < k := by
  have h := cn_lt (p := p) (q := fun _ => true) hi hp rfl (fun _ _ _ => rfl)
  have h2 : cn (fun _ => true) k ≤ k := cn_le _ _
  omega
/-- before: less, or like and of lesser place -/
theorem ordP_tr {v : Nat → Int32} {a b c : Nat} (h1 : ordP v b a = true) (h2 : ordP v c b = true) : ordP v c a = true := by
  simp only [ordP, decide_eq_true_eq] at *
  rcases h1 with h1 | ⟨h1, h3⟩ <;> rcases h2 with h2 | ⟨h2, h4⟩
  · exact Or.inl (Int32.lt_trans h1 h2)
  · exact Or.inl (by rw [← h2]; exact h1)
  · exact Or.inl (by rw [h1]; exact h2)
  · exact Or.inr ⟨by rw [h1, h2], by omega⟩
theorem ordP_irr {v : Nat → Int32} {a : Nat} : ordP v a a = false := by
  simp only [ordP, decide_eq_false_iff_not]
  rintro (h | ⟨-, h⟩)
  · exact Int32.lt_irrefl h
  · omega
theorem ordP_tot {v : Nat → Int32} {a b : Nat} (h : a ≠ b) : ordP v b a = true ∨ ordP v a b = true := by
  simp only [ordP, decide_eq_true_eq]
  rcases Int32.lt_or_le (v a) (v b) with h1 | h1
  · exact Or.inl (Or.inl h1)
  · rcases Int32.lt_or_eq_of_le h1 with h2 | h2
    · exact Or.inr (Or.inl h2)
    · rcases Nat.lt_or_gt_of_ne h with h3 | h3
      · exact Or.inl (Or.inr ⟨h2.symm, h3⟩)
      · exact Or.inr (Or.inr ⟨h2, h3⟩)
theorem ordF_lt {n : Nat} {v : Nat → Int32} {h : Nat} (hh : h < n) : ordF n v h < n := cn_all_lt hh ordP_irr
theorem ordF_inj {n : Nat} {v : Nat → Int32} {a b : Nat} (ha : a < n) (hb : b < n) (h : ordF n v a = ordF n v b) : a = b := by
  apply Classical.byContradiction
  intro hne
  rcases ordP_tot (v := v) hne with h1 | h1
  · have := cn_lt (p := ordP v a) (q := ordP v b) ha ordP_irr h1 (fun j _ hj => ordP_tr hj h1)
    unfold ordF at h
    omega
  · have := cn_lt (p := ordP v b) (q := ordP v a) hb ordP_irr h1 (fun j _ hj => ordP_tr hj h1)
    unfold ordF at h
    omega
theorem hot_go {n : Nat} {v : Nat → Int32} {t i : Nat} : ∀ {k : Nat}, k ≤ n → n - k ≤ i → i < n → ordF n v i = t → (∀ j, n - k ≤ j → j < i → ordF n v j ≠ t) → hotF n v t k = i
  | 0, _, h1, h2, _, _ => by omega
  | k + 1, hk, h1, h2, h3, h4 => by
    simp only [hotF]
    by_cases h : n - (k + 1) = i
    · rw [if_pos (by rw [h]; exact h3)]; exact h
    · rw [if_neg (h4 _ (Nat.le_refl _) (by omega))]
      exact hot_go (by omega) (by omega) h2 h3 (fun j a b => h4 j (by omega) b)
/-- the house of a turn is there, and is the first of its turn -/
theorem hot_ok {n : Nat} {v : Nat → Int32} {t : Nat} (ht : t < n) : hotF n v t n < n ∧ ordF n v (hotF n v t n) = t ∧ ∀ i, i < n → ordF n v i = t → i = hotF n v t n := by
  obtain ⟨i, h1, h2⟩ := pig n (ordF n v) (fun i hi => ordF_lt hi) (fun i j hi hj h => ordF_inj hi hj h) t ht
  have e : hotF n v t n = i := hot_go (Nat.le_refl _) (by omega) h1 h2 (fun j _ hj q => absurd (ordF_inj (by omega) h1 (q.trans h2.symm)) (by omega))
  rw [e]
  exact ⟨h1, h2, fun j hj q => ordF_inj hj h1 (q.trans h2.symm)⟩
theorem hot_lt {n : Nat} {v : Nat → Int32} {t : Nat} (hn : 0 < n) : ∀ {k : Nat}, k ≤ n → hotF n v t k < n
  | 0, _ => hn
  | k + 1, hk => by
    simp only [hotF]
    split
    · omega
    · exact hot_lt hn (by omega)
theorem wkP_lt {n : Nat} {v : Nat → Int32} : ∀ {t : Nat}, 0 < n → wkP n v t < n
  | 0, h => h
  | _ + 1, h => hot_lt h (Nat.le_refl _)
theorem bit_is : ∀ set, set < 64 → ∀ h, h < 6 → ((nI set >>> (nI h &&& 31)) &&& nI 1 = nI 1 ↔ set.testBit h = true) := by decide +kernel
theorem ff_f_at {v : Nat → Int32} {x : Int32} {k i j : Nat} (h : ¬ v k = x) (hj : j = k + 1) : ff (hwP v x) k (i + 1) = ff (hwP v x) j i := by
  rw [hj]
  exact ff_f (decide_eq_false h)
theorem numOn_now {kd ag pa : Nat → Int32} {td : Nat} : (fun h => numOn kd ag pa td h td) = nmF kd ag := by
  funext h
  unfold numOn ageOn nmF
  rw [if_pos rfl]
theorem hwF_now {n : Nat} {kd ag pa : Nat → Int32} {td : Nat} {x : Int32} : hwF n (fun h => numOn kd ag pa td h td) x = hwF n (nmF kd ag) x := by rw [numOn_now]
theorem al_t {p : Nat → Bool} {k : Nat} (h1 : al p k = true) (h2 : p k = true) : al p (k + 1) = true := by simp [al, h1, h2]
theorem al_f1 {p : Nat → Bool} {k : Nat} (h : ¬ al p k = true) : ¬ al p (k + 1) = true := fun q => h (by simp only [al, Bool.and_eq_true] at q; exact q.1)
theorem al_f2 {p : Nat → Bool} {k : Nat} (h : ¬ p k = true) : ¬ al p (k + 1) = true := fun q => h (by simp only [al, Bool.and_eq_true] at q; exact q.2)
theorem cr_cn {p : Nat → Bool} : ∀ (n lo : Nat), cn p (lo + n) = cn p lo + cr p lo n
  | 0, lo => rfl
  | n + 1, lo => by
    have h := cr_cn (p := p) n (lo + 1)
    rw [show lo + (n + 1) = (lo + 1) + n by omega, h]
    simp only [cn, cr]
    omega
theorem cr_0 {p : Nat → Bool} {n : Nat} : cr p 0 n = cn p n := by
  have h := cr_cn (p := p) n 0
  rw [Nat.zero_add] at h
  rw [h]
  simp [cn]
theorem abt_ok {n : Nat} {kd ag bo dm dn : Nat → Int32} {nd j w : Nat} (hj : j < n) (hn : n ≤ 6) (hw : w ≤ 5) : abtF n kd ag bo dm dn nd (nI j) (nI w) = abF n kd ag bo dm dn nd j w := by
  unfold abtF
  rw [if_pos (hIn_nI hj (by omega)), if_pos (x_in_nI hw (by omega)), nI_clamp (by omega), nI_clamp (by omega)]
theorem abt_1 {n : Nat} {kd ag bo dm dn : Nat → Int32} {nd : Nat} {x w : Int32} (h : ¬ hIn n x) : abtF n kd ag bo dm dn nd x w = -101 := if_neg h
theorem abt_2 {n : Nat} {kd ag bo dm dn : Nat → Int32} {nd j : Nat} {w : Int32} (hj : j < n) (hn : n ≤ 6) (h : ¬ x_in w 5) : abtF n kd ag bo dm dn nd (nI j) w = -102 := by
  unfold abtF
  rw [if_pos (hIn_nI hj (by omega)), if_neg h]
theorem as_1 {n : Nat} {kd : Nat → Int32} {x k : Int32} (h : ¬ hIn n x) : asF n kd x k = -101 := if_neg h
theorem as_2 {n : Nat} {kd : Nat → Int32} {j : Nat} {k : Int32} (hj : j < n) (hn : n ≤ 6) (h : ¬ x_in k 4) : asF n kd (nI j) k = -102 := by
  unfold asF
  rw [if_pos (hIn_nI hj (by omega)), if_neg h]
theorem as_ok {n : Nat} {kd : Nat → Int32} {j : Nat} {k : Int32} (hj : j < n) (hn : n ≤ 6) (h : x_in k 4) : asF n kd (nI j) k = (if k = nI 0 ∨ kd j = k ∨ k = nI 2 ∧ kd j = nI 4 then nI j else -1) := by
  unfold asF
  rw [if_pos (hIn_nI hj (by omega)), if_pos h, nI_clamp (by omega)]
theorem th_ok {n td : Nat} {kd ag pa : Nat → Int32} {j d : Nat} (hj : j < n) (hn : n ≤ 6) (hd : d ≤ td) (ht : td ≤ 30) : thF n td kd ag pa (nI j) (nI d) = numOn kd ag pa td j d := by
  unfold thF
  rw [if_pos ⟨hIn_nI hj (by omega), Nat.lt_of_le_of_lt (Nat.zero_le _) hj, x_in_nI hd (by omega)⟩, nI_clamp (by omega), nI_clamp (by omega)]
theorem go_ok {n td : Nat} {kd ag pa : Nat → Int32} {x : Int32} {d : Nat} (hn : 0 < n) (hd : d ≤ td) (ht : td ≤ 30) : goF n td kd ag pa x (nI d) = hwF n (fun h => numOn kd ag pa td h d) x := by
  unfold goF
  rw [if_pos ⟨hn, x_in_nI hd (by omega)⟩, nI_clamp (by omega)]
theorem whn_ok {n : Nat} {kd ag : Nat → Int32} {j : Nat} {y : Int32} (hj : j < n) (hn : n ≤ 6) : whnF n kd ag (nI j) y = whF (kd j) (ag j) y := by
  unfold whnF
  rw [if_pos (hIn_nI hj (by omega)), nI_clamp (by omega)]
theorem cnt_ok {n td : Nat} {bs : Int32} {kd ag dm dn : Nat → Int32} {nd nh pl st w : Nat} (hw : w ≤ 9) : cntF n td bs kd ag dm dn nd nh pl st (nI w) = hmF n td bs kd ag dm dn nd nh pl st w := by
  unfold cntF
  rw [if_pos (x_in_nI hw (by omega)), nI_clamp (by omega)]
theorem woP_le {cb : Nat → Bool} {v : Nat → Int32} {td a : Nat} : woP cb v td a ≤ td + 1 := by
  unfold woP
  split
  · exact cn_le _ _
  · omega
theorem mwo_le {cb : Nat → Bool} {v : Nat → Int32} {td n : Nat} : mxF (woP cb v td) n ≤ td + 1 := mxF_le (fun _ _ => woP_le)
theorem woF_le {cb : Nat → Bool} {v : Nat → Int32} {td : Nat} : woF cb v td ≤ td + 1 := mwo_le
theorem asL_le {w : Nat → Nat} {f0 : Nat} : ∀ {h : Nat}, asL w f0 h ≤ f0
  | 0 => Nat.le_refl _
  | h + 1 => by
    have := asL_le (w := w) (f0 := f0) (h := h)
    simp only [asL]
    split <;> omega
theorem f0F_le {cb : Nat → Bool} {td : Nat} : f0F cb td ≤ 268435456 := by
  unfold f0F
  split <;> omega
theorem bit_n : ∀ set, set < 64 → ∀ h, h < 6 → (nI set >>> (nI h &&& 31)) &&& nI 1 = nI (if set.testBit h = true then 1 else 0) := by decide +kernel
theorem dg_iff {c : Nat} (h : c ≤ 126) : (nI 0 ≤ nI c - nI 48 ∧ nI c - nI 48 ≤ nI 9) ↔ 48 ≤ c ∧ c ≤ 57 := by
  by_cases h1 : c < 48
  · have := pk_sneg (a := c) (b := 48) (by omega) h1
    exact ⟨fun q => absurd this (Int32.not_lt.mpr q.1), fun q => by omega⟩
  · rw [pk_sub (by omega)]
    refine ⟨fun q => ?_, fun q => ⟨nI_pos' (by omega), nI_le (by omega) (by omega)⟩⟩
    have := (nI_leI (a := c - 48) (b := 9) (by omega) (by omega)).mp q.2
    omega
theorem fz_go {p : Nat → Bool} : ∀ {n lo k : Nat}, lo ≤ k → k < lo + n → (∀ j, lo ≤ j → j < k → p j = true) → p k = false → fz p lo n = k
  | 0, lo, k, h1, h2, _, _ => by omega
  | n + 1, lo, k, h1, h2, h3, h4 => by
    simp only [fz]
    by_cases h : lo = k
    · subst h
      rw [if_neg (by rw [h4]; decide)]
    · rw [if_pos (h3 lo (Nat.le_refl _) (by omega))]
      exact fz_go (by omega) (by omega) (fun j a b => h3 j (by omega) b) h4
theorem fz_all {p : Nat → Bool} : ∀ {n lo : Nat}, (∀ j, lo ≤ j → j < lo + n → p j = true) → fz p lo n = lo + n
  | 0, lo, _ => rfl
  | n + 1, lo, h => by
    simp only [fz]
    rw [if_pos (h lo (Nat.le_refl _) (by omega)), fz_all (fun j a b => h j (by omega) (by omega))]
    omega
theorem fz_le {p : Nat → Bool} : ∀ {n lo : Nat}, fz p lo n ≤ lo + n
  | 0, lo => Nat.le_refl _
  | n + 1, lo => by
    have := fz_le (p := p) (n := n) (lo := lo + 1)
    simp only [fz]
    split <;> omega
theorem fz_c {p q : Nat → Bool} : ∀ {n lo : Nat}, (∀ j, lo ≤ j → j < lo + n → p j = q j) → fz p lo n = fz q lo n
  | 0, _, _ => rfl
  | n + 1, lo, h => by
    simp only [fz]
    rw [h lo (Nat.le_refl _) (by omega), fz_c (n := n) (lo := lo + 1) (fun j a b => h j (by omega) (by omega))]
/-- the reference's letters and the class's stop at one place -/
theorem fz_gd {pg : Nat → Int32} {pl : Nat} : fz (gdM pg) 0 pl = ftF pg pl := by
  have agree : ∀ j, j < 17 → gdM pg j = gdX j (pg j).toNatClampNeg := by
    intro j hj
    unfold gdM gdX
    rw [decide_eq_true hj, Bool.true_and]
    by_cases h0 : j % 3 = 0
    · rw [if_pos h0, if_pos h0]
    · rw [if_neg h0, if_neg h0]
      by_cases h1 : j % 3 = 1
      · rw [if_pos h1, if_pos h1]
      · rw [if_neg h1, if_neg h1]
        simp [hj]
  unfold ftF
  by_cases hall : ∀ j, j < 17 → j < pl → gdM pg j = true
  · by_cases hpl : pl ≤ 17
    · exact fz_c (fun j _ h => agree j (by omega))
    · have m17 : gdM pg 17 = false := by
        unfold gdM
        rw [if_neg (by decide), if_neg (by decide)]
        exact decide_eq_false (fun q => absurd q.2 (by decide))
      have x17 : gdX 17 (pg 17).toNatClampNeg = false := by
        unfold gdX
        simp
      rw [fz_go (p := gdM pg) (k := 17) (by omega) (by omega) (fun j _ h => hall j h (by omega)) m17, fz_go (p := fun k => gdX k (pg k).toNatClampNeg) (k := 17) (by omega) (by omega) (fun j _ h => by rw [← agree j h]; exact hall j h (by omega)) x17]
  · have hex : ∃ k, k < 17 ∧ k < pl ∧ gdM pg k = false ∧ ∀ j, j < k → gdM pg j = true := by
      have key : ∀ m, m ≤ 17 → m ≤ pl → (∀ j, j < m → gdM pg j = true) ∨ ∃ k, k < 17 ∧ k < pl ∧ gdM pg k = false ∧ ∀ j, j < k → gdM pg j = true := by
        intro m
        induction m with
        | zero => intro _ _; exact Or.inl (fun j h => by omega)
        | succ m ih =>
          intro h1 h2
          rcases ih (by omega) (by omega) with h | h
          · by_cases hm : gdM pg m = true
            · refine Or.inl (fun j hj => ?_)
              by_cases hjm : j = m
              · rw [hjm]; exact hm
              · exact h j (by omega)
            · exact Or.inr ⟨m, by omega, by omega, Bool.eq_false_iff.mpr hm, h⟩
          · exact Or.inr h
      rcases key (min 17 pl) (Nat.min_le_left _ _) (Nat.min_le_right _ _) with h | h
      · exact absurd (fun j a b => h j (by omega)) hall
      · exact h
    obtain ⟨k, h1, h2, h3, h4⟩ := hex
    rw [fz_go (p := gdM pg) (k := k) (by omega) (by omega) (fun j _ h => h4 j h) h3, fz_go (p := fun k => gdX k (pg k).toNatClampNeg) (k := k) (by omega) (by omega) (fun j _ h => by rw [← agree j (by omega)]; exact h4 j h) (by rw [← agree k h1]; exact h3)]
theorem mxF_1 {f : Nat → Nat} {k : Nat} (h : f k ≤ mxF f k) : mxF f (k + 1) = mxF f k := Nat.max_eq_left h
theorem mxF_2 {f : Nat → Nat} {k x : Nat} (e : f k = x) (h : mxF f k < x) : mxF f (k + 1) = x := by
  rw [← e] at h ⊢
  exact Nat.max_eq_right (Nat.le_of_lt h)
theorem dyE1 {cb : Nat → Bool} {td i k : Nat} (ek : td + 1 - i = k + 1) (h : ¬ cb k = true) : cr cb (td + 1 - (i + 1)) (i + 1) = cr cb (td + 1 - i) i + 0 := by
  rw [show td + 1 - (i + 1) = k by omega, ek]
  simp only [cr]
  rw [if_neg h]
theorem dyE2 {cb : Nat → Bool} {td i k : Nat} (ek : td + 1 - i = k + 1) (h : cb k = true) : cr cb (td + 1 - (i + 1)) (i + 1) = cr cb (td + 1 - i) i + 1 := by
  rw [show td + 1 - (i + 1) = k by omega, ek]
  simp only [cr]
  rw [if_pos h]
theorem dyE3 {cb : Nat → Bool} {td i k : Nat} (ek : td + 1 - i = k + 1) (h : ¬ cb k = true) : ff cb (td + 1 - (i + 1)) (i + 1) = ff cb (td + 1 - i) i := by
  rw [show td + 1 - (i + 1) = k by omega, ek]
  exact ff_f (Bool.eq_false_iff.mpr h)
theorem dyE4 {cb : Nat → Bool} {td i k : Nat} (ek : td + 1 - i = k + 1) (h : cb k = true) : ff cb (td + 1 - (i + 1)) (i + 1) = nI k := by
  rw [show td + 1 - (i + 1) = k by omega]
  exact ff_t h
theorem woP_t {cb : Nat → Bool} {v : Nat → Int32} {td a : Nat} (h : cb a = true) : woP cb v td a = cn (woQ cb v a) (td + 1) := if_pos h
theorem woP_f {cb : Nat → Bool} {v : Nat → Int32} {td a : Nat} (h : ¬ cb a = true) : woP cb v td a = 0 := if_neg h
theorem gdM_0 {pg : Nat → Int32} {k : Nat} (h : k % 3 = 0) : gdM pg k = !decide (kindF (pg k).toNatClampNeg = -1) := by unfold gdM; rw [if_pos h]
theorem gdM_1 {pg : Nat → Int32} {k : Nat} (h : k % 3 = 1) : gdM pg k = decide (48 ≤ (pg k).toNatClampNeg ∧ (pg k).toNatClampNeg ≤ 57) := by unfold gdM; rw [if_neg (by omega), if_pos h]
theorem gdM_2 {pg : Nat → Int32} {k : Nat} (h : ¬ k % 3 = 0) (h1 : ¬ k % 3 = 1) : gdM pg k = decide ((pg k).toNatClampNeg = 44 ∧ k < 17) := by unfold gdM; rw [if_neg h, if_neg h1]
theorem asB_1 {w : Nat → Nat} {f0 i x : Nat} (e : w i = x) (h : asL w f0 i ≤ x) : asB w f0 (i + 1) = asB w f0 i := by
  simp only [asB]
  rw [e, if_neg (by omega)]
theorem asB_2 {w : Nat → Nat} {f0 i x : Nat} (e : w i = x) (h : x < asL w f0 i) : asB w f0 (i + 1) = nI i := by
  simp only [asB]
  rw [e, if_pos h]
theorem asL_1 {w : Nat → Nat} {f0 i x : Nat} (e : w i = x) (h : asL w f0 i ≤ x) : asL w f0 (i + 1) = asL w f0 i := by
  simp only [asL]
  rw [e, if_neg (by omega)]
theorem asL_2 {w : Nat → Nat} {f0 i x : Nat} (e : w i = x) (h : x < asL w f0 i) : asL w f0 (i + 1) = x := by
  simp only [asL]
  rw [e, if_pos h]
end
section
/-! ===== what calls do to the state, in numbers ===== -/
theorem by_of {x : Int32} {lo hi : Nat} (h : nI lo ≤ x ∧ x ≤ nI hi) (hl : lo < 2147483648) (hh : hi < 2147483647) : ∃ c : Nat, lo ≤ c ∧ c ≤ hi ∧ x = nI c := by
  obtain ⟨c, hc, rfl⟩ := x_in_of (x := x) (k := hi) ⟨Int32.le_trans (nI_le (Nat.zero_le lo) hl) h.1, h.2⟩ hh
  exact ⟨c, (nI_leI hl (by omega)).mp h.1, hc, rfl⟩
theorem by_nI {c lo hi : Nat} (h1 : lo ≤ c) (h2 : c ≤ hi) (hh : hi < 2147483648) : nI lo ≤ nI c ∧ nI c ≤ nI hi := ⟨nI_le h1 (by omega), nI_le h2 hh⟩
def letF (pg : Nat → Int32) (pl : Nat) (x : Int32) : Int32 × (Nat → Int32) × Nat := if nI 32 ≤ x ∧ x ≤ nI 126 then (if pl = 19 then (-104, pg, pl) else (nI (pl + 1), upd pg pl x, pl + 1)) else (-102, pg, pl)
theorem byte_ok : ∀ c, c ≤ 126 → vp_nar .byte ((nI c).toInt8.toInt32) = nI c := by
  intro c hc
  rw [vp_nar_byte]
  revert c
  decide +kernel
theorem bear_t {n : Nat} {kd ag : Nat → Int32} {h : Nat} (q : lendF n kd h) : bearF n kd ag h = upd (upd ag h (nI 0)) (h + 1) (nI 0) := if_pos q
theorem bear_f {n : Nat} {kd ag : Nat → Int32} {h : Nat} (q : ¬ lendF n kd h) : bearF n kd ag h = upd ag h (nI 0) := if_neg q
theorem gro_0 {kd ag : Nat → Int32} : groF kd ag 0 = ag := by funext j; simp [groF]
theorem gro_at {kd ag : Nat → Int32} {i : Nat} : groF kd ag i i = ag i := if_neg (Nat.lt_irrefl i)
theorem gro_s {kd ag : Nat → Int32} {i : Nat} {x : Int32} (h : x = nxF (kd i) (ag i)) : upd (groF kd ag i) i x = groF kd ag (i + 1) := by
  funext j
  unfold upd groF
  by_cases hj : j = i
  · rw [if_pos hj, if_pos (by omega), hj, h]
  · rw [if_neg hj]
    by_cases h1 : j < i
    · rw [if_pos h1, if_pos (by omega)]
    · rw [if_neg h1, if_neg (by omega)]
theorem gro_s1 {kd ag : Nat → Int32} {i : Nat} (h : kd i = nI 4) : upd (groF kd ag i) i (groF kd ag i i + nI 0) = groF kd ag (i + 1) :=
  gro_s (by rw [gro_at]; unfold nxF; rw [if_pos h]; exact Int32.add_zero _)
theorem gro_s2 {kd ag : Nat → Int32} {i : Nat} (h : ¬ kd i = nI 4) : upd (groF kd ag i) i (groF kd ag i i + nI 1) = groF kd ag (i + 1) :=
  gro_s (by rw [gro_at]; unfold nxF; rw [if_neg h])
/-- the births in houses -/
def bornF (n : Nat) (kd bo : Nat → Int32) (h : Nat) : Nat → Int32 := if lendF n kd h then upd (upd bo h (bo h + nI 1)) (h + 1) (bo (h + 1) + nI 1) else upd bo h (bo h + nI 1)
theorem born_t {n : Nat} {kd bo : Nat → Int32} {h : Nat} (q : lendF n kd h) : bornF n kd bo h = upd (upd bo h (bo h + nI 1)) (h + 1) (upd bo h (bo h + nI 1) (h + 1) + nI 1) := by
  unfold bornF
  rw [if_pos q, show upd bo h (bo h + nI 1) (h + 1) = bo (h + 1) from if_neg (by omega)]
theorem born_f {n : Nat} {kd bo : Nat → Int32} {h : Nat} (q : ¬ lendF n kd h) : bornF n kd bo h = upd bo h (bo h + nI 1) := if_neg q
def birF (n : Nat) (kd ag bo : Nat → Int32) (bs x : Int32) : Int32 × (Nat → Int32) × (Nat → Int32) × Int32 :=
  if hIn n x then (if mayB (kd x.toNatClampNeg) then ((if lendF n kd x.toNatClampNeg then nI 2 else nI 1), bearF n kd ag x.toNatClampNeg, bornF n kd bo x.toNatClampNeg, bs + nI 1) else (-103, ag, bo, bs)) else (-101, ag, bo, bs)
theorem bir_ok {n : Nat} {kd ag bo : Nat → Int32} {bs : Int32} {j : Nat} (hj : j < n) (hn : n ≤ 6) (h : mayB (kd j)) : birF n kd ag bo bs (nI j) = ((if lendF n kd j then nI 2 else nI 1), bearF n kd ag j, bornF n kd bo j, bs + nI 1) := by
  unfold birF
  rw [nI_clamp (by omega), if_pos (hIn_nI hj (by omega)), if_pos h]
theorem bir_1 {n : Nat} {kd ag bo : Nat → Int32} {bs x : Int32} (h : ¬ hIn n x) : birF n kd ag bo bs x = (-101, ag, bo, bs) := if_neg h
theorem bir_2 {n : Nat} {kd ag bo : Nat → Int32} {bs : Int32} {j : Nat} (hj : j < n) (hn : n ≤ 6) (h : ¬ mayB (kd j)) : birF n kd ag bo bs (nI j) = (-103, ag, bo, bs) := by
  unfold birF
  rw [nI_clamp (by omega), if_pos (hIn_nI hj (by omega)), if_neg h]
/-- the ages of day td, kept -/
def paF (ag pa : Nat → Int32) (td i : Nat) : Nat → Int32 := fun q => if 6 * td ≤ q ∧ q < 6 * td + i then ag (q - 6 * td) else pa q
theorem pa_0 {ag pa : Nat → Int32} {td : Nat} : paF ag pa td 0 = pa := by
  funext q
  exact if_neg (by omega)
theorem pa_s {ag pa : Nat → Int32} {td i q : Nat} (hq : q = 6 * td + i) : upd (paF ag pa td i) q (ag i) = paF ag pa td (i + 1) := by
  subst hq
  funext q
  unfold upd paF
  by_cases hj : q = 6 * td + i
  · rw [if_pos hj, if_pos (by omega), hj, show 6 * td + i - 6 * td = i by omega]
  · rw [if_neg hj]
    by_cases h1 : 6 * td ≤ q ∧ q < 6 * td + i
    · rw [if_pos h1, if_pos (by omega)]
    · rw [if_neg h1, if_neg (by omega)]
def dayF (n td : Nat) (kd ag pa : Nat → Int32) : Int32 × (Nat → Int32) × (Nat → Int32) × Nat := if n = 0 then (-103, ag, pa, td) else if td = 30 then (-104, ag, pa, td) else (nI (td + 1), groF kd ag n, paF ag pa td n, td + 1)
def debF (n nd : Nat) (dm dn : Nat → Int32) (x y : Int32) : Int32 × (Nat → Int32) × (Nat → Int32) × Nat :=
  if (nI 1 ≤ x ∧ x ≤ nI 9) ∧ x_in y 99 then (if n = 0 then (-103, dm, dn, nd) else if nd = 6 then (-104, dm, dn, nd) else (nI (nd + 1), upd dm nd x, upd dn nd y, nd + 1)) else (-102, dm, dn, nd)
def heaF (n nh : Nat) (hh hn : Nat → Int32) (x y : Int32) : Int32 × (Nat → Int32) × (Nat → Int32) × Nat :=
  if hIn n x then (if x_in y 99 then (if nh = 6 then (-104, hh, hn, nh) else (nI (nh + 1), upd hh nh x, upd hn nh y, nh + 1)) else (-102, hh, hn, nh)) else (-101, hh, hn, nh)
/-- births in the houses of a set below h -/
def brS (n : Nat) (kd ag : Nat → Int32) (set : Nat) : Nat → (Nat → Int32)
  | 0 => ag
  | h + 1 => if set.testBit h = true then bearF n kd (brS n kd ag set h) h else brS n kd ag set h
def nbP (kd : Nat → Int32) (set h : Nat) : Bool := !set.testBit h || decide (mayB (kd h))
def nbV (n : Nat) (kd ag : Nat → Int32) (set : Nat) : Int32 := sm (nmF kd (brS n kd ag set n)) n
def nbR (n : Nat) (kd ag : Nat → Int32) (set : Nat) : Int32 := if al (nbP kd set) n = true then nbV n kd ag set else (268435456 : Int32)
def fwP (s : Nat) : Option Nat → Bool
  | none => true
  | some b => decide (popF s < popF b)
def bst (n : Nat) (kd ag : Nat → Int32) (x : Int32) : Nat → Option Nat
  | 0 => none
  | s + 1 => if fwP s (bst n kd ag x s) = true ∧ al (nbP kd s) n = true ∧ nbV n kd ag s ≤ x then some s else bst n kd ag x s
def o2i : Option Nat → Int32
  | none => -1
  | some b => nI b
theorem bst_lt {n : Nat} {kd ag : Nat → Int32} {x : Int32} : ∀ {s b : Nat}, bst n kd ag x s = some b → b < s
  | 0, b, h => by cases h
  | s + 1, b, h => by
    simp only [bst] at h
    split at h
    · cases h; omega
    · have := bst_lt (s := s) h; omega
theorem bst_t {n : Nat} {kd ag : Nat → Int32} {x : Int32} {s : Nat} (h1 : fwP s (bst n kd ag x s) = true) (h2 : al (nbP kd s) n = true) (h3 : nbV n kd ag s ≤ x) : bst n kd ag x (s + 1) = some s := if_pos ⟨h1, h2, h3⟩
theorem bst_f {n : Nat} {kd ag : Nat → Int32} {x : Int32} {s : Nat} (h : ¬ (fwP s (bst n kd ag x s) = true ∧ al (nbP kd s) n = true ∧ nbV n kd ag s ≤ x)) : bst n kd ag x (s + 1) = bst n kd ag x s := if_neg h
theorem o2i_ne {o : Option Nat} (h : ¬ o2i o = -1) : ∃ b, o = some b := by
  cases o with
  | none => exact absurd rfl h
  | some b => exact ⟨b, rfl⟩
theorem o2i_eq {o : Option Nat} (h : o2i o = -1) (hb : ∀ b, o = some b → b < 2147483648) : o = none := by
  cases o with
  | none => rfl
  | some b =>
    have h2 : nI b = -1 := h
    have h3 := nI_pos' (n := b) (hb b rfl)
    rw [h2] at h3
    exact absurd h3 (by decide)
def chN (n : Nat) (kd ag : Nat → Int32) (x w : Int32) : Int32 := match bst n kd ag x (2 ^ n) with
  | none => -1
  | some b => if w = nI 1 then nI b else nI (popF b)
def chF (n : Nat) (kd ag : Nat → Int32) (x w : Int32) : Int32 := if x_in x 400 ∧ x_in w 1 then (if n = 0 then -103 else chN n kd ag x w) else -102
theorem shl_n : ∀ n, n ≤ 6 → nI 1 <<< (nI n &&& 31) = nI (2 ^ n) := by decide +kernel
theorem two_n {n : Nat} (h : n ≤ 6) : 2 ^ n ≤ 64 := by
  have := Nat.pow_le_pow_right (show 0 < 2 by decide) h
  omega
/-- draws -/
def sdF (z : Nat) : Nat := (1103515245 * z + 12345) % 2147483648
def drF (n z : Nat) : Nat := z / 65536 % n
theorem lN_m31 (a : Nat) : lN a &&& (2147483647 : Int64) = lN (a % 2147483648) := by
  have key : ∀ x y : Int64, x.toBitVec = y.toBitVec → x = y := fun x y h => Int64.toBitVec_inj.mp h
  apply key
  rw [Int64.toBitVec_and]
  show BitVec.ofNat 64 a &&& BitVec.ofNat 64 2147483647 = BitVec.ofNat 64 (a % 2147483648)
  apply BitVec.eq_of_toNat_eq
  rw [BitVec.toNat_and, BitVec.toNat_ofNat, BitVec.toNat_ofNat, BitVec.toNat_ofNat]
  rw [show 2147483647 % 2 ^ 64 = 2 ^ 31 - 1 from rfl, Nat.and_two_pow_sub_one_eq_mod]
  omega
theorem sd_l (z : Nat) : ((1103515245 : Int64) * lN z + (12345 : Int64)) &&& (2147483647 : Int64) = lN (sdF z) := by
  rw [show (1103515245 : Int64) = lN 1103515245 from rfl, show (12345 : Int64) = lN 12345 from rfl, lN_mul, lN_add, lN_m31]
  rfl
theorem sdF_lt (z : Nat) : sdF z < 2147483648 := Nat.mod_lt _ (by decide)
theorem dr_l {n z : Nat} (hz : z < 2147483648) (hn : 0 < n) (hn6 : n ≤ 6) : (lN z / (65536 : Int64) - lN z / (65536 : Int64) / (nI n).toInt64 * (nI n).toInt64).toInt32 = nI (drF n z) := by
  rw [show (65536 : Int64) = lN 65536 from rfl, pk_lDiv (by omega) (by omega) (by omega), nI_l (by omega), pk_lRem (by omega) hn (by omega), lN_i]
  rfl
theorem drF_lt {n z : Nat} (hn : 0 < n) : drF n z < n := Nat.mod_lt _ hn
def ySd (z : Nat) : Nat → Nat
  | 0 => z
  | i + 1 => sdF (ySd z i)
theorem ySd_lt {z : Nat} (hz : z < 2147483648) : ∀ {i : Nat}, ySd z i < 2147483648
  | 0 => hz
  | _ + 1 => sdF_lt _
def yB (n : Nat) (kd ag : Nat → Int32) (h : Nat) : Nat → Int32 := if mayB (kd h) then bearF n kd ag h else ag
def yAg (n : Nat) (kd ag : Nat → Int32) (z : Nat) : Nat → (Nat → Int32)
  | 0 => ag
  | i + 1 => groF kd (yB n kd (yAg n kd ag z i) (drF n (ySd z (i + 1)))) n
def yFar (n : Nat) (kd ag : Nat → Int32) (z : Nat) : Nat → Nat
  | 0 => 0
  | i + 1 => yFar n kd ag z i + wkF n (nmF kd (yB n kd (yAg n kd ag z i) (drF n (ySd z (i + 1))))) n
def yrN (n : Nat) (kd ag : Nat → Int32) (k z : Nat) (w : Int32) : Int32 := if w = nI 0 then nI (yFar n kd ag z k) else if w = nI 1 then sm (nmF kd (yAg n kd ag z k)) n else nI (ySd z k)
def yrF (n : Nat) (kd ag : Nat → Int32) (k x w : Int32) : Int32 := if (nI 1 ≤ k ∧ k ≤ nI 60) ∧ 0 ≤ x ∧ x_in w 2 then (if n = 0 then -103 else yrN n kd ag k.toNatClampNeg x.toNatClampNeg w) else -102
end
section
def MW (cI cB : ClassId) (b : Nat → Nat) (st n td nd nh pl : Nat) (bs : Int32) (kd ag bo pa dm dn hh hn pg sv : Nat → Int32) (sd : Int64) (ik : Int32) (ks ktd knd knh : Nat) (kbs : Int32) (kag kbo kpa kdm kdn khh khn : Nat → Int32) (hf : Int64) : va_W := [(b 0, .inr (3, [.int (nI st), .int (nI n), .ref (b 1), .ref (b 2), .ref (b 3), .ref (b 4), .int (nI td), .int bs, .int (nI nd), .ref (b 5), .ref (b 6), .int (nI nh), .ref (b 7), .ref (b 8), .int (nI pl), .ref (b 9), .ref (b 10), .long sd, .int ik, .int (nI ks), .int (nI ktd), .int kbs, .int (nI knd), .int (nI knh), .ref (b 11), .ref (b 12), .ref (b 13), .ref (b 14), .ref (b 15), .ref (b 16), .ref (b 17), .long hf])),
  (b 1, .inl (cI, 6, .inl kd)),
  (b 2, .inl (cI, 6, .inl ag)),
  (b 3, .inl (cI, 6, .inl bo)),
  (b 4, .inl (cI, 186, .inl pa)),
  (b 5, .inl (cI, 6, .inl dm)),
  (b 6, .inl (cI, 6, .inl dn)),
  (b 7, .inl (cI, 6, .inl hh)),
  (b 8, .inl (cI, 6, .inl hn)),
  (b 9, .inl (cB, 19, .inl pg)),
  (b 10, .inl (cI, 6, .inl sv)),
  (b 11, .inl (cI, 6, .inl kag)),
  (b 12, .inl (cI, 6, .inl kbo)),
  (b 13, .inl (cI, 186, .inl kpa)),
  (b 14, .inl (cI, 6, .inl kdm)),
  (b 15, .inl (cI, 6, .inl kdn)),
  (b 16, .inl (cI, 6, .inl khh)),
  (b 17, .inl (cI, 6, .inl khn))]
abbrev rm_X3_within : Room := { frames := 0, cells := 0, slots := 0, locals := 0 }
set_option maxRecDepth 100000 in
set_option maxHeartbeats 4000000 in
theorem c_X3_within (l : Launch) (D : va_G) (cI cB : ClassId) (aS : Nat) (x lo hi : Int32)  : Met l yX3_within (mw yX3_within cX3_within 3 (some .boolean)) rm_X3_within (RP D cI cB aS ([]) [.int x, .int lo, .int hi]) (vp_Si (fun r => r = (bi (lo ≤ x ∧ x ≤ hi)))) 0 0 (fun _ => False) := by
  refine met_of (by decide) (Nat.le_of_ble_eq_true rfl) ?_
  intro p e s m below meth c ls hx hb hr hml hown hg hlocks hin hK hP hl
  have hown : s.vm.findClass RX3 = some m.cls := hown
  have hl : lv_has ls 3 [(0, .int x), (1, .int lo), (2, .int hi)] := hl
  refine lv_iload_n hx hb dX3_within_0 rfl (lv_at hl 0 rfl) ?_
  refine lv_iload_n hx hb dX3_within_1 rfl (lv_at hl 1 rfl) ?_
  refine lv_icmp_lt (tgt := 14) hx hb dX3_within_2 (by decide) (fun c_2 => ?_) (fun c_2 => ?_)
  · skip
    refine lv_iconst (v := (nI 0)) hx hb dX3_within_14 (by decide) ?_
    exact rr_z hx hb hr hlocks dX3_within_15 bi_nar (ret_f (fun h => Int32.not_lt.mpr h.1 c_2))
  · skip
    refine lv_iload_n hx hb dX3_within_5 rfl (lv_at hl 0 rfl) ?_
    refine lv_iload_n hx hb dX3_within_6 rfl (lv_at hl 2 rfl) ?_
    refine lv_icmp_gt (tgt := 14) hx hb dX3_within_7 (by decide) (fun c_7 => ?_) (fun c_7 => ?_)
    · skip
      refine lv_iconst (v := (nI 0)) hx hb dX3_within_14 (by decide) ?_
      exact rr_z hx hb hr hlocks dX3_within_15 bi_nar (ret_f (fun h => Int32.not_lt.mpr h.2 c_7))
    · skip
      refine lv_iconst (v := (nI 1)) hx hb dX3_within_10 (by decide) ?_
      refine lv_goto (tgt := 15) hx hb dX3_within_11 (by decide) ?_
      exact rr_z hx hb hr hlocks dX3_within_15 bi_nar (ret_t ⟨Int32.not_lt.mp c_2, Int32.not_lt.mp c_7⟩)
abbrev rm_X3_isIn : Room := { frames := 0, cells := 0, slots := 0, locals := 0 }
set_option maxRecDepth 100000 in
set_option maxHeartbeats 4000000 in
theorem c_X3_isIn (l : Launch) (D : va_G) (cI cB : ClassId) (aS : Nat) (set h : Nat) (q1 : set < 64) (q2 : h < 6) : Met l yX3_isIn (mw yX3_isIn cX3_isIn 2 (some .boolean)) rm_X3_isIn (RP D cI cB aS ([]) [.int (nI set), .int (nI h)]) (vp_Si (fun r => r = (bi (biS set h)))) 0 0 (fun _ => False) := by
  refine met_of (by decide) (Nat.le_of_ble_eq_true rfl) ?_
  intro p e s m below meth c ls hx hb hr hml hown hg hlocks hin hK hP hl
  have hown : s.vm.findClass RX3 = some m.cls := hown
  have hl : lv_has ls 2 [(0, .int (nI set)), (1, .int (nI h))] := hl
  refine lv_iload_n hx hb dX3_isIn_0 rfl (lv_at hl 0 rfl) ?_
  refine lv_iload_n hx hb dX3_isIn_1 rfl (lv_at hl 1 rfl) ?_
  refine lv_ishr hx hb dX3_isIn_2 ?_
  refine lv_iconst (v := (nI 1)) hx hb dX3_isIn_3 (by decide) ?_
  refine lv_iand hx hb dX3_isIn_4 ?_
  refine lv_iconst (v := (nI 1)) hx hb dX3_isIn_5 (by decide) ?_
  refine lv_icmp_ne (tgt := 13) hx hb dX3_isIn_6 (by decide) (fun c_6 => ?_) (fun c_6 => ?_)
  · skip
    refine lv_iconst (v := (nI 0)) hx hb dX3_isIn_13 (by decide) ?_
    exact rr_z hx hb hr hlocks dX3_isIn_14 bi_nar (ret_f (fun q => c_6 ((bit_is set q1 h q2).mpr q)))
  · skip
    refine lv_iconst (v := (nI 1)) hx hb dX3_isIn_9 (by decide) ?_
    refine lv_goto (tgt := 14) hx hb dX3_isIn_10 (by decide) ?_
    exact rr_z hx hb hr hlocks dX3_isIn_14 bi_nar (ret_t ((bit_is set q1 h q2).mp c_6))
abbrev rm_X3_isHouse : Room := { frames := 1, cells := 0, slots := 0, locals := 22 }
theorem sf_X3_within : sfacts RX3 yX3_within cX3_within 3 (some .boolean) 3 := ⟨⟨rfl, by decide +kernel, by decide +kernel, by decide +kernel⟩, gm_470, gm_5, gm_471⟩
set_option maxRecDepth 100000 in
set_option maxHeartbeats 4000000 in
theorem c_X3_isHouse (l : Launch) (D : va_G) (cI cB : ClassId) (aS : Nat) (b : Nat → Nat) (st n td nd nh pl : Nat) (bs : Int32) (kd ag bo pa dm dn hh hn pg sv : Nat → Int32) (sd : Int64) (ik : Int32) (ks ktd knd knh : Nat) (kbs : Int32) (kag kbo kpa kdm kdn khh khn : Nat → Int32) (hf : Int64) (x : Int32) (hn6 : n ≤ 6) : Met l yX3_isHouse (mw yX3_isHouse cX3_isHouse 2 (some .boolean)) rm_X3_isHouse (RP D cI cB aS (MW cI cB b st n td nd nh pl bs kd ag bo pa dm dn hh hn pg sv sd ik ks ktd knd knh kbs kag kbo kpa kdm kdn khh khn hf) [.ref (b 0), .int x]) (vp_Si (fun r => r = (bi (hIn n x)))) 0 0 (fun _ => False) := by
  refine met_of (by decide) (Nat.le_of_ble_eq_true rfl) ?_
  intro p e s m below meth c ls hx hb hr hml hown hg hlocks hin hK hP hl
  have hown : s.vm.findClass RX3 = some m.cls := hown
  have hl : lv_has ls 2 [(0, .ref (b 0)), (1, .int x)] := hl
  refine lv_iload_n hx hb dX3_isHouse_0 rfl (lv_at hl 1 rfl) ?_
  refine lv_iconst (v := (nI 0)) hx hb dX3_isHouse_1 (by decide) ?_
  refine lv_aload_n hx hb dX3_isHouse_2 rfl (lv_at hl 0 rfl) ?_
  refine va_get (D := D) (ci := 3) (v := .int (nI n)) (C := RX3) (T := TX3) (N := 32) hx hb hg us_X3 hown hK.1 hP 0 rfl rfl 1 (by decide) (hg _ gm_402) (fun _ h9 => h9) rfl dX3_isHouse_3 ?_
  refine lv_iconst (v := (nI 1)) hx hb dX3_isHouse_6 (by decide) ?_
  refine lv_isub hx hb dX3_isHouse_7 ?_
  refine rdS (As := [.int x, .int (nI 0), .int ((nI n) - (nI 1))]) (rest := []) hx hb hml hown hg (c_X3_within l D cI cB aS x (nI 0) ((nI n) - (nI 1))) gm_469 sf_X3_within ⟨Nat.le_of_ble_eq_true rfl, Nat.le_of_ble_eq_true rfl⟩ ⟨rfl, rfl⟩ ⟨Nat.zero_le _, Nat.zero_le _⟩ (RP.preS hK (fun k q h => by simp at h)) rfl hl.1 rfl (Nat.le_of_ble_eq_true rfl) dX3_isHouse_8 ?_
  exact rr_z hx hb hr hlocks dX3_isHouse_11 bi_nar (bi_c (isH_iff hn6))
abbrev rm_X3_isDay : Room := { frames := 1, cells := 0, slots := 0, locals := 22 }
set_option maxRecDepth 100000 in
set_option maxHeartbeats 4000000 in
theorem c_X3_isDay (l : Launch) (D : va_G) (cI cB : ClassId) (aS : Nat) (b : Nat → Nat) (st n td nd nh pl : Nat) (bs : Int32) (kd ag bo pa dm dn hh hn pg sv : Nat → Int32) (sd : Int64) (ik : Int32) (ks ktd knd knh : Nat) (kbs : Int32) (kag kbo kpa kdm kdn khh khn : Nat → Int32) (hf : Int64) (x : Int32) (hn6 : n ≤ 6) : Met l yX3_isDay (mw yX3_isDay cX3_isDay 2 (some .boolean)) rm_X3_isDay (RP D cI cB aS (MW cI cB b st n td nd nh pl bs kd ag bo pa dm dn hh hn pg sv sd ik ks ktd knd knh kbs kag kbo kpa kdm kdn khh khn hf) [.ref (b 0), .int x]) (vp_Si (fun r => r = (bi (dIn n td x)))) 0 0 (fun _ => False) := by
  refine met_of (by decide) (Nat.le_of_ble_eq_true rfl) ?_
  intro p e s m below meth c ls hx hb hr hml hown hg hlocks hin hK hP hl
  have hown : s.vm.findClass RX3 = some m.cls := hown
  have hl : lv_has ls 2 [(0, .ref (b 0)), (1, .int x)] := hl
  refine lv_aload_n hx hb dX3_isDay_0 rfl (lv_at hl 0 rfl) ?_
  refine va_get (D := D) (ci := 3) (v := .int (nI n)) (C := RX3) (T := TX3) (N := 32) hx hb hg us_X3 hown hK.1 hP 0 rfl rfl 1 (by decide) (hg _ gm_402) (fun _ h9 => h9) rfl dX3_isDay_1 ?_
  refine nv_if_le (tgt := 23) hx hb dX3_isDay_4 (by omega) (by decide) (fun c_4 => ?_) (fun c_4 => ?_)
  · skip
    refine lv_iconst (v := (nI 0)) hx hb dX3_isDay_23 (by decide) ?_
    exact rr_z hx hb hr hlocks dX3_isDay_24 bi_nar (ret_f (fun h => absurd h.1 (by omega)))
  · skip
    refine lv_iload_n hx hb dX3_isDay_7 rfl (lv_at hl 1 rfl) ?_
    refine lv_iconst (v := (nI 0)) hx hb dX3_isDay_8 (by decide) ?_
    refine lv_aload_n hx hb dX3_isDay_9 rfl (lv_at hl 0 rfl) ?_
    refine va_get (D := D) (ci := 3) (v := .int (nI td)) (C := RX3) (T := TX3) (N := 32) hx hb hg us_X3 hown hK.1 hP 0 rfl rfl 6 (by decide) (hg _ gm_407) (fun _ h9 => h9) rfl dX3_isDay_10 ?_
    refine rdS (As := [.int x, .int (nI 0), .int (nI td)]) (rest := []) hx hb hml hown hg (c_X3_within l D cI cB aS x (nI 0) (nI td)) gm_469 sf_X3_within ⟨Nat.le_of_ble_eq_true rfl, Nat.le_of_ble_eq_true rfl⟩ ⟨rfl, rfl⟩ ⟨Nat.zero_le _, Nat.zero_le _⟩ (RP.preS hK (fun k q h => by simp at h)) rfl hl.1 rfl (Nat.le_of_ble_eq_true rfl) dX3_isDay_13 ?_
    refine bv_if_eq (tgt := 23) hx hb dX3_isDay_16 (by decide) (fun c_16 => ?_) (fun c_16 => ?_)
    · skip
      refine lv_iconst (v := (nI 0)) hx hb dX3_isDay_23 (by decide) ?_
      exact rr_z hx hb hr hlocks dX3_isDay_24 bi_nar (ret_f (fun h => c_16 h.2))
    · skip
      refine lv_iconst (v := (nI 1)) hx hb dX3_isDay_19 (by decide) ?_
      refine lv_goto (tgt := 24) hx hb dX3_isDay_20 (by decide) ?_
      exact rr_z hx hb hr hlocks dX3_isDay_24 bi_nar (ret_t ⟨by omega, c_16⟩)
abbrev rm_X3_numberBy : Room := { frames := 0, cells := 0, slots := 0, locals := 0 }
set_option maxRecDepth 100000 in
set_option maxHeartbeats 4000000 in
theorem c_X3_numberBy (l : Launch) (D : va_G) (cI cB : ClassId) (aS : Nat) (b : Nat → Nat) (st n td nd nh pl : Nat) (bs : Int32) (kd ag bo pa dm dn hh hn pg sv : Nat → Int32) (sd : Int64) (ik : Int32) (ks ktd knd knh : Nat) (kbs : Int32) (kag kbo kpa kdm kdn khh khn : Nat → Int32) (hf : Int64) (j : Nat) (x : Int32) (qj : j < 6) : Met l yX3_numberBy (mw yX3_numberBy cX3_numberBy 3 (some .int)) rm_X3_numberBy (RP D cI cB aS (MW cI cB b st n td nd nh pl bs kd ag bo pa dm dn hh hn pg sv sd ik ks ktd knd knh kbs kag kbo kpa kdm kdn khh khn hf) [.ref (b 0), .int (nI j), .int x]) (vp_Si (fun r => r = (numF (kd j) x))) 0 0 (fun _ => False) := by
  refine met_of (by decide) (Nat.le_of_ble_eq_true rfl) ?_
  intro p e s m below meth c ls hx hb hr hml hown hg hlocks hin hK hP hl
  have hown : s.vm.findClass RX3 = some m.cls := hown
  have hl : lv_has ls 3 [(0, .ref (b 0)), (1, .int (nI j)), (2, .int x)] := hl
  refine lv_aload_n hx hb dX3_numberBy_0 rfl (lv_at hl 0 rfl) ?_
  refine va_get (D := D) (ci := 3) (v := .ref (b 1)) (C := RX3) (T := TX3) (N := 32) hx hb hg us_X3 hown hK.1 hP 0 rfl rfl 2 (by decide) (hg _ gm_403) (fun _ h9 => h9) rfl dX3_numberBy_1 ?_
  refine lv_iload_n hx hb dX3_numberBy_4 rfl (lv_at hl 1 rfl) ?_
  refine nv_iald hx hb hK.1 hP 1 0 rfl rfl (by omega) (by decide) dX3_numberBy_5 ?_
  refine lv_iconst (v := (nI 1)) hx hb dX3_numberBy_6 (by decide) ?_
  refine lv_icmp_ne (tgt := 16) hx hb dX3_numberBy_7 (by decide) (fun c_7 => ?_) (fun c_7 => ?_)
  · skip
    refine lv_iload_n hx hb dX3_numberBy_16 rfl (lv_at hl 2 rfl) ?_
    exact rr_i hx hb hr hlocks dX3_numberBy_17 ((if_neg c_7).symm)
  · skip
    refine lv_iload_n hx hb dX3_numberBy_10 rfl (lv_at hl 2 rfl) ?_
    refine lv_iconst (v := (nI 2)) hx hb dX3_numberBy_11 (by decide) ?_
    refine lv_idiv hx hb dX3_numberBy_12 (by decide) ?_
    refine lv_goto (tgt := 17) hx hb dX3_numberBy_13 (by decide) ?_
    exact rr_i hx hb hr hlocks dX3_numberBy_17 ((if_pos c_7).symm)
abbrev rm_X3_number : Room := { frames := 1, cells := 0, slots := 0, locals := 22 }
theorem vf_X3_numberBy : vfacts RX3 yX3_numberBy cX3_numberBy 3 (some .int) 2 := ⟨⟨rfl, by decide +kernel, by decide +kernel, by decide +kernel⟩, gm_507, gm_712, gm_5, gm_508⟩
set_option maxRecDepth 100000 in
set_option maxHeartbeats 4000000 in
theorem c_X3_number (l : Launch) (D : va_G) (cI cB : ClassId) (aS : Nat) (b : Nat → Nat) (st n td nd nh pl : Nat) (bs : Int32) (kd ag bo pa dm dn hh hn pg sv : Nat → Int32) (sd : Int64) (ik : Int32) (ks ktd knd knh : Nat) (kbs : Int32) (kag kbo kpa kdm kdn khh khn : Nat → Int32) (hf : Int64) (j : Nat) (qj : j < 6) : Met l yX3_number (mw yX3_number cX3_number 2 (some .int)) rm_X3_number (RP D cI cB aS (MW cI cB b st n td nd nh pl bs kd ag bo pa dm dn hh hn pg sv sd ik ks ktd knd knh kbs kag kbo kpa kdm kdn khh khn hf) [.ref (b 0), .int (nI j)]) (vp_Si (fun r => r = (nmF kd ag j))) 0 0 (fun _ => False) := by
  refine met_of (by decide) (Nat.le_of_ble_eq_true rfl) ?_
  intro p e s m below meth c ls hx hb hr hml hown hg hlocks hin hK hP hl
  have hown : s.vm.findClass RX3 = some m.cls := hown
  have hl : lv_has ls 2 [(0, .ref (b 0)), (1, .int (nI j))] := hl
  refine lv_aload_n hx hb dX3_number_0 rfl (lv_at hl 0 rfl) ?_
  refine lv_iload_n hx hb dX3_number_1 rfl (lv_at hl 1 rfl) ?_
  refine lv_aload_n hx hb dX3_number_2 rfl (lv_at hl 0 rfl) ?_
  refine va_get (D := D) (ci := 3) (v := .ref (b 2)) (C := RX3) (T := TX3) (N := 32) hx hb hg us_X3 hown hK.1 hP 0 rfl rfl 3 (by decide) (hg _ gm_404) (fun _ h9 => h9) rfl dX3_number_3 ?_
  refine lv_iload_n hx hb dX3_number_6 rfl (lv_at hl 1 rfl) ?_
  refine nv_iald hx hb hK.1 hP 2 0 rfl rfl (by omega) (by decide) dX3_number_7 ?_
  refine rdV (As := [.int (nI j), .int (ag j)]) (rest := []) hx hb hml hown hg (c_X3_numberBy l D cI cB aS _ st n td nd nh pl bs kd ag bo pa dm dn hh hn pg sv sd ik ks ktd knd knh kbs kag kbo kpa kdm kdn khh khn hf j (ag j) (by first | assumption | omega)) gm_506 vf_X3_numberBy ⟨Nat.le_of_ble_eq_true rfl, Nat.le_of_ble_eq_true rfl⟩ ⟨rfl, rfl⟩ ⟨Nat.zero_le _, Nat.zero_le _⟩ (RP.preV hK hP (q0 := 0) (ci := 3) rfl rfl) rfl hl.1 rfl (Nat.le_of_ble_eq_true rfl) dX3_number_8 ?_
  exact rr_i hx hb hr hlocks dX3_number_11 rfl
abbrev rm_X3_numberOn : Room := { frames := 1, cells := 0, slots := 0, locals := 22 }
set_option maxRecDepth 100000 in
set_option maxHeartbeats 4000000 in
theorem c_X3_numberOn (l : Launch) (D : va_G) (cI cB : ClassId) (aS : Nat) (b : Nat → Nat) (st n td nd nh pl : Nat) (bs : Int32) (kd ag bo pa dm dn hh hn pg sv : Nat → Int32) (sd : Int64) (ik : Int32) (ks ktd knd knh : Nat) (kbs : Int32) (kag kbo kpa kdm kdn khh khn : Nat → Int32) (hf : Int64) (j d : Nat) (qj : j < 6) (qd : d ≤ td) (qt : td ≤ 30) : Met l yX3_numberOn (mw yX3_numberOn cX3_numberOn 3 (some .int)) rm_X3_numberOn (RP D cI cB aS (MW cI cB b st n td nd nh pl bs kd ag bo pa dm dn hh hn pg sv sd ik ks ktd knd knh kbs kag kbo kpa kdm kdn khh khn hf) [.ref (b 0), .int (nI j), .int (nI d)]) (vp_Si (fun r => r = (numOn kd ag pa td j d))) 0 0 (fun _ => False) := by
  refine met_of (by decide) (Nat.le_of_ble_eq_true rfl) ?_
  intro p e s m below meth c ls hx hb hr hml hown hg hlocks hin hK hP hl
  have hown : s.vm.findClass RX3 = some m.cls := hown
  have hl : lv_has ls 3 [(0, .ref (b 0)), (1, .int (nI j)), (2, .int (nI d))] := hl
  refine lv_aload_n hx hb dX3_numberOn_0 rfl (lv_at hl 0 rfl) ?_
  refine lv_iload_n hx hb dX3_numberOn_1 rfl (lv_at hl 1 rfl) ?_
  refine lv_iload_n hx hb dX3_numberOn_2 rfl (lv_at hl 2 rfl) ?_
  refine lv_aload_n hx hb dX3_numberOn_3 rfl (lv_at hl 0 rfl) ?_
  refine va_get (D := D) (ci := 3) (v := .int (nI td)) (C := RX3) (T := TX3) (N := 32) hx hb hg us_X3 hown hK.1 hP 0 rfl rfl 6 (by decide) (hg _ gm_407) (fun _ h9 => h9) rfl dX3_numberOn_4 ?_
  refine nv_icmp_ne (tgt := 19) hx hb dX3_numberOn_7 (by omega) (by omega) (by decide) (fun c_7 => ?_) (fun c_7 => ?_)
  · skip
    refine lv_aload_n hx hb dX3_numberOn_19 rfl (lv_at hl 0 rfl) ?_
    refine va_get (D := D) (ci := 3) (v := .ref (b 4)) (C := RX3) (T := TX3) (N := 32) hx hb hg us_X3 hown hK.1 hP 0 rfl rfl 5 (by decide) (hg _ gm_406) (fun _ h9 => h9) rfl dX3_numberOn_20 ?_
    refine lv_bipush (v := (nI 6)) hx hb dX3_numberOn_23 (by decide) ?_
    refine lv_iload_n hx hb dX3_numberOn_25 rfl (lv_at hl 2 rfl) ?_
    refine nv_imul hx hb dX3_numberOn_26 ?_
    refine lv_iload_n hx hb dX3_numberOn_27 rfl (lv_at hl 1 rfl) ?_
    refine nv_iadd hx hb dX3_numberOn_28 ?_
    refine nv_iald hx hb hK.1 hP 4 0 rfl rfl (by omega) (by decide) dX3_numberOn_29 ?_
    refine rdV (As := [.int (nI j), .int (pa (6 * d + j))]) (rest := []) hx hb hml hown hg (c_X3_numberBy l D cI cB aS _ st n td nd nh pl bs kd ag bo pa dm dn hh hn pg sv sd ik ks ktd knd knh kbs kag kbo kpa kdm kdn khh khn hf j (pa (6 * d + j)) (by first | assumption | omega)) gm_506 vf_X3_numberBy ⟨Nat.le_of_ble_eq_true rfl, Nat.le_of_ble_eq_true rfl⟩ ⟨rfl, rfl⟩ ⟨Nat.zero_le _, Nat.zero_le _⟩ (RP.preV hK hP (q0 := 0) (ci := 3) rfl rfl) rfl hl.1 rfl (Nat.le_of_ble_eq_true rfl) dX3_numberOn_30 ?_
    exact rr_i hx hb hr hlocks dX3_numberOn_33 (by unfold numOn ageOn; rw [if_neg c_7])
  · skip
    refine lv_aload_n hx hb dX3_numberOn_10 rfl (lv_at hl 0 rfl) ?_
    refine va_get (D := D) (ci := 3) (v := .ref (b 2)) (C := RX3) (T := TX3) (N := 32) hx hb hg us_X3 hown hK.1 hP 0 rfl rfl 3 (by decide) (hg _ gm_404) (fun _ h9 => h9) rfl dX3_numberOn_11 ?_
    refine lv_iload_n hx hb dX3_numberOn_14 rfl (lv_at hl 1 rfl) ?_
    refine nv_iald hx hb hK.1 hP 2 0 rfl rfl (by omega) (by decide) dX3_numberOn_15 ?_
    refine lv_goto (tgt := 30) hx hb dX3_numberOn_16 (by decide) ?_
    refine rdV (As := [.int (nI j), .int (ag j)]) (rest := []) hx hb hml hown hg (c_X3_numberBy l D cI cB aS _ st n td nd nh pl bs kd ag bo pa dm dn hh hn pg sv sd ik ks ktd knd knh kbs kag kbo kpa kdm kdn khh khn hf j (ag j) (by first | assumption | omega)) gm_506 vf_X3_numberBy ⟨Nat.le_of_ble_eq_true rfl, Nat.le_of_ble_eq_true rfl⟩ ⟨rfl, rfl⟩ ⟨Nat.zero_le _, Nat.zero_le _⟩ (RP.preV hK hP (q0 := 0) (ci := 3) rfl rfl) rfl hl.1 rfl (Nat.le_of_ble_eq_true rfl) dX3_numberOn_30 ?_
    exact rr_i hx hb hr hlocks dX3_numberOn_33 (by unfold numOn ageOn; rw [if_pos c_7])
abbrev rm_X3_mayBirth : Room := { frames := 0, cells := 0, slots := 0, locals := 0 }
set_option maxRecDepth 100000 in
set_option maxHeartbeats 4000000 in
theorem c_X3_mayBirth (l : Launch) (D : va_G) (cI cB : ClassId) (aS : Nat) (b : Nat → Nat) (st n td nd nh pl : Nat) (bs : Int32) (kd ag bo pa dm dn hh hn pg sv : Nat → Int32) (sd : Int64) (ik : Int32) (ks ktd knd knh : Nat) (kbs : Int32) (kag kbo kpa kdm kdn khh khn : Nat → Int32) (hf : Int64) (j : Nat) (qj : j < 6) : Met l yX3_mayBirth (mw yX3_mayBirth cX3_mayBirth 2 (some .boolean)) rm_X3_mayBirth (RP D cI cB aS (MW cI cB b st n td nd nh pl bs kd ag bo pa dm dn hh hn pg sv sd ik ks ktd knd knh kbs kag kbo kpa kdm kdn khh khn hf) [.ref (b 0), .int (nI j)]) (vp_Si (fun r => r = (bi (mayB (kd j))))) 0 0 (fun _ => False) := by
  refine met_of (by decide) (Nat.le_of_ble_eq_true rfl) ?_
  intro p e s m below meth c ls hx hb hr hml hown hg hlocks hin hK hP hl
  have hown : s.vm.findClass RX3 = some m.cls := hown
  have hl : lv_has ls 2 [(0, .ref (b 0)), (1, .int (nI j))] := hl
  refine lv_aload_n hx hb dX3_mayBirth_0 rfl (lv_at hl 0 rfl) ?_
  refine va_get (D := D) (ci := 3) (v := .ref (b 1)) (C := RX3) (T := TX3) (N := 32) hx hb hg us_X3 hown hK.1 hP 0 rfl rfl 2 (by decide) (hg _ gm_403) (fun _ h9 => h9) rfl dX3_mayBirth_1 ?_
  refine lv_iload_n hx hb dX3_mayBirth_4 rfl (lv_at hl 1 rfl) ?_
  refine nv_iald hx hb hK.1 hP 1 0 rfl rfl (by omega) (by decide) dX3_mayBirth_5 ?_
  refine lv_iconst (v := (nI 2)) hx hb dX3_mayBirth_6 (by decide) ?_
  refine lv_icmp_eq (tgt := 24) hx hb dX3_mayBirth_7 (by decide) (fun c_7 => ?_) (fun c_7 => ?_)
  · skip
    refine lv_iconst (v := (nI 0)) hx hb dX3_mayBirth_24 (by decide) ?_
    exact rr_z hx hb hr hlocks dX3_mayBirth_25 bi_nar (ret_f (fun h => h (Or.inl c_7)))
  · skip
    refine lv_aload_n hx hb dX3_mayBirth_10 rfl (lv_at hl 0 rfl) ?_
    refine va_get (D := D) (ci := 3) (v := .ref (b 1)) (C := RX3) (T := TX3) (N := 32) hx hb hg us_X3 hown hK.1 hP 0 rfl rfl 2 (by decide) (hg _ gm_403) (fun _ h9 => h9) rfl dX3_mayBirth_11 ?_
    refine lv_iload_n hx hb dX3_mayBirth_14 rfl (lv_at hl 1 rfl) ?_
    refine nv_iald hx hb hK.1 hP 1 0 rfl rfl (by omega) (by decide) dX3_mayBirth_15 ?_
    refine lv_iconst (v := (nI 4)) hx hb dX3_mayBirth_16 (by decide) ?_
    refine lv_icmp_eq (tgt := 24) hx hb dX3_mayBirth_17 (by decide) (fun c_17 => ?_) (fun c_17 => ?_)
    · skip
      refine lv_iconst (v := (nI 0)) hx hb dX3_mayBirth_24 (by decide) ?_
      exact rr_z hx hb hr hlocks dX3_mayBirth_25 bi_nar (ret_f (fun h => h (Or.inr c_17)))
    · skip
      refine lv_iconst (v := (nI 1)) hx hb dX3_mayBirth_20 (by decide) ?_
      refine lv_goto (tgt := 25) hx hb dX3_mayBirth_21 (by decide) ?_
      exact rr_z hx hb hr hlocks dX3_mayBirth_25 bi_nar (ret_t (fun h => h.elim c_7 c_17))
abbrev rm_X3_lends : Room := { frames := 0, cells := 0, slots := 0, locals := 0 }
set_option maxRecDepth 100000 in
set_option maxHeartbeats 4000000 in
theorem c_X3_lends (l : Launch) (D : va_G) (cI cB : ClassId) (aS : Nat) (b : Nat → Nat) (st n td nd nh pl : Nat) (bs : Int32) (kd ag bo pa dm dn hh hn pg sv : Nat → Int32) (sd : Int64) (ik : Int32) (ks ktd knd knh : Nat) (kbs : Int32) (kag kbo kpa kdm kdn khh khn : Nat → Int32) (hf : Int64) (j : Nat) (qj : j < 6) (hn6 : n ≤ 6) : Met l yX3_lends (mw yX3_lends cX3_lends 2 (some .boolean)) rm_X3_lends (RP D cI cB aS (MW cI cB b st n td nd nh pl bs kd ag bo pa dm dn hh hn pg sv sd ik ks ktd knd knh kbs kag kbo kpa kdm kdn khh khn hf) [.ref (b 0), .int (nI j)]) (vp_Si (fun r => r = (bi (lendF n kd j)))) 0 0 (fun _ => False) := by
  refine met_of (by decide) (Nat.le_of_ble_eq_true rfl) ?_
  intro p e s m below meth c ls hx hb hr hml hown hg hlocks hin hK hP hl
  have hown : s.vm.findClass RX3 = some m.cls := hown
  have hl : lv_has ls 2 [(0, .ref (b 0)), (1, .int (nI j))] := hl
  refine lv_iload_n hx hb dX3_lends_0 rfl (lv_at hl 1 rfl) ?_
  refine lv_iconst (v := (nI 1)) hx hb dX3_lends_1 (by decide) ?_
  refine nv_iadd hx hb dX3_lends_2 ?_
  refine lv_aload_n hx hb dX3_lends_3 rfl (lv_at hl 0 rfl) ?_
  refine va_get (D := D) (ci := 3) (v := .int (nI n)) (C := RX3) (T := TX3) (N := 32) hx hb hg us_X3 hown hK.1 hP 0 rfl rfl 1 (by decide) (hg _ gm_402) (fun _ h9 => h9) rfl dX3_lends_4 ?_
  refine nv_icmp_ge (tgt := 26) hx hb dX3_lends_7 (by omega) (by omega) (by decide) (fun c_7 => ?_) (fun c_7 => ?_)
  · skip
    refine lv_iconst (v := (nI 0)) hx hb dX3_lends_26 (by decide) ?_
    exact rr_z hx hb hr hlocks dX3_lends_27 bi_nar (ret_f (by first | assumption | omega))
  · skip
    refine lv_aload_n hx hb dX3_lends_10 rfl (lv_at hl 0 rfl) ?_
    refine va_get (D := D) (ci := 3) (v := .ref (b 1)) (C := RX3) (T := TX3) (N := 32) hx hb hg us_X3 hown hK.1 hP 0 rfl rfl 2 (by decide) (hg _ gm_403) (fun _ h9 => h9) rfl dX3_lends_11 ?_
    refine lv_iload_n hx hb dX3_lends_14 rfl (lv_at hl 1 rfl) ?_
    refine lv_iconst (v := (nI 1)) hx hb dX3_lends_15 (by decide) ?_
    refine nv_iadd hx hb dX3_lends_16 ?_
    refine nv_iald hx hb hK.1 hP 1 0 rfl rfl (by omega) (by decide) dX3_lends_17 ?_
    refine lv_iconst (v := (nI 3)) hx hb dX3_lends_18 (by decide) ?_
    refine lv_icmp_ne (tgt := 26) hx hb dX3_lends_19 (by decide) (fun c_19 => ?_) (fun c_19 => ?_)
    · skip
      refine lv_iconst (v := (nI 0)) hx hb dX3_lends_26 (by decide) ?_
      exact rr_z hx hb hr hlocks dX3_lends_27 bi_nar (ret_f (fun h => c_19 h.2))
    · skip
      refine lv_iconst (v := (nI 1)) hx hb dX3_lends_22 (by decide) ?_
      refine lv_goto (tgt := 27) hx hb dX3_lends_23 (by decide) ?_
      exact rr_z hx hb hr hlocks dX3_lends_27 bi_nar (ret_t ⟨c_7, c_19⟩)
abbrev rm_X3_orderOf : Room := { frames := 2, cells := 0, slots := 0, locals := 43 }
theorem vf_X3_number : vfacts RX3 yX3_number cX3_number 2 (some .int) 1 := ⟨⟨rfl, by decide +kernel, by decide +kernel, by decide +kernel⟩, gm_504, gm_711, gm_5, gm_505⟩
set_option maxRecDepth 100000 in
set_option maxHeartbeats 4000000 in
theorem c_X3_orderOf (l : Launch) (D : va_G) (cI cB : ClassId) (aS : Nat) (b : Nat → Nat) (st n td nd nh pl : Nat) (bs : Int32) (kd ag bo pa dm dn hh hn pg sv : Nat → Int32) (sd : Int64) (ik : Int32) (ks ktd knd knh : Nat) (kbs : Int32) (kag kbo kpa kdm kdn khh khn : Nat → Int32) (hf : Int64) (h : Nat) (qh : h < n) (hn6 : n ≤ 6) : Met l yX3_orderOf (mw yX3_orderOf cX3_orderOf 4 (some .int)) rm_X3_orderOf (RP D cI cB aS (MW cI cB b st n td nd nh pl bs kd ag bo pa dm dn hh hn pg sv sd ik ks ktd knd knh kbs kag kbo kpa kdm kdn khh khn hf) [.ref (b 0), .int (nI h)]) (vp_Si (fun r => r = (nI (ordF n (nmF kd ag) h)))) 0 0 (fun _ => False) := by
  refine met_of (by decide) (Nat.le_of_ble_eq_true rfl) ?_
  intro p e s m below meth c ls hx hb hr hml hown hg hlocks hin hK hP hl
  have hown : s.vm.findClass RX3 = some m.cls := hown
  have hl : lv_has ls 4 [(0, .ref (b 0)), (1, .int (nI h))] := hl
  refine lv_iconst (v := (nI 0)) hx hb dX3_orderOf_0 (by decide) ?_
  refine lv_istore_n (lv' := [(2, .int (nI 0)), (0, .ref (b 0)), (1, .int (nI h))]) hx hb dX3_orderOf_1 rfl hl (by decide) rfl (fun ls hl => ?_)
  refine lv_iconst (v := (nI 0)) hx hb dX3_orderOf_2 (by decide) ?_
  refine lv_istore_n (lv' := [(3, .int (nI 0)), (2, .int (nI 0)), (0, .ref (b 0)), (1, .int (nI h))]) hx hb dX3_orderOf_3 rfl hl (by decide) rfl (fun ls hl => ?_)
  -- loop at 4
  refine loopR (nL := 4) (B := n) (I := fun i => True) (lv := fun i => [(0, .ref (b 0)), (1, .int (nI h)), (2, .int (nI (cn (ordP (nmF kd ag) h) i))), (3, .int (nI i))]) 0 (Nat.zero_le _) (trivial) (by show lv_has ls 4 [(0, .ref (b 0)), (1, .int (nI h)), (2, .int (nI (cn (ordP (nmF kd ag) h) 0))), (3, .int (nI 0))]; exact lv_sub hl [2, 3, 1, 0] rfl) (fun i ls hj hI hl ih => ?_)
  have hl : lv_has ls 4 [(0, .ref (b 0)), (1, .int (nI h)), (2, .int (nI (cn (ordP (nmF kd ag) h) i))), (3, .int (nI i))] := hl
  have ih_4 := ih
  refine lv_iload_n hx hb dX3_orderOf_4 rfl (lv_at hl 3 rfl) ?_
  refine lv_aload_n hx hb dX3_orderOf_5 rfl (lv_at hl 0 rfl) ?_
  refine va_get (D := D) (ci := 3) (v := .int (nI n)) (C := RX3) (T := TX3) (N := 32) hx hb hg us_X3 hown hK.1 hP 0 rfl rfl 1 (by decide) (hg _ gm_402) (fun _ h9 => h9) rfl dX3_orderOf_6 ?_
  refine nv_icmp_ge (tgt := 57) hx hb dX3_orderOf_9 (by omega) (by omega) (by decide) (fun c_9 => ?_) (fun c_9 => ?_)
  · skip
    refine lv_iload_n hx hb dX3_orderOf_57 rfl (lv_at hl 2 rfl) ?_
    exact rr_i hx hb hr hlocks dX3_orderOf_58 (by rw [show i = n by omega]; rfl)
  · skip
    refine lv_iload_n hx hb dX3_orderOf_12 rfl (lv_at hl 2 rfl) ?_
    refine lv_aload_n hx hb dX3_orderOf_13 rfl (lv_at hl 0 rfl) ?_
    refine lv_iload_n hx hb dX3_orderOf_14 rfl (lv_at hl 3 rfl) ?_
    refine rdV (As := [.int (nI i)]) (rest := [.int (nI (cn (ordP (nmF kd ag) h) i))]) hx hb hml hown hg (c_X3_number l D cI cB aS _ st n td nd nh pl bs kd ag bo pa dm dn hh hn pg sv sd ik ks ktd knd knh kbs kag kbo kpa kdm kdn khh khn hf i (by first | assumption | omega)) gm_503 vf_X3_number ⟨Nat.le_of_ble_eq_true rfl, Nat.le_of_ble_eq_true rfl⟩ ⟨rfl, rfl⟩ ⟨Nat.zero_le _, Nat.zero_le _⟩ (RP.preV hK hP (q0 := 0) (ci := 3) rfl rfl) rfl hl.1 rfl (Nat.le_of_ble_eq_true rfl) dX3_orderOf_15 ?_
    refine lv_aload_n hx hb dX3_orderOf_18 rfl (lv_at hl 0 rfl) ?_
    refine lv_iload_n hx hb dX3_orderOf_19 rfl (lv_at hl 1 rfl) ?_
    refine rdV (As := [.int (nI h)]) (rest := [.int (nmF kd ag i), .int (nI (cn (ordP (nmF kd ag) h) i))]) hx hb hml hown hg (c_X3_number l D cI cB aS _ st n td nd nh pl bs kd ag bo pa dm dn hh hn pg sv sd ik ks ktd knd knh kbs kag kbo kpa kdm kdn khh khn hf h (by first | assumption | omega)) gm_503 vf_X3_number ⟨Nat.le_of_ble_eq_true rfl, Nat.le_of_ble_eq_true rfl⟩ ⟨rfl, rfl⟩ ⟨Nat.zero_le _, Nat.zero_le _⟩ (RP.preV hK hP (q0 := 0) (ci := 3) rfl rfl) rfl hl.1 rfl (Nat.le_of_ble_eq_true rfl) dX3_orderOf_20 ?_
    refine lv_icmp_lt (tgt := 44) hx hb dX3_orderOf_23 (by decide) (fun c_23 => ?_) (fun c_23 => ?_)
    · skip
      refine lv_iconst (v := (nI 1)) hx hb dX3_orderOf_44 (by decide) ?_
      refine lv_goto (tgt := 49) hx hb dX3_orderOf_45 (by decide) ?_
      refine nv_iadd hx hb dX3_orderOf_49 ?_
      refine lv_istore_n (lv' := [(2, .int (nI (cn (ordP (nmF kd ag) h) i + 1))), (0, .ref (b 0)), (1, .int (nI h)), (3, .int (nI i))]) hx hb dX3_orderOf_50 rfl hl (by decide) rfl (fun ls hl => ?_)
      refine lv_iinc (v := (nI (i + 1))) (lv' := [(3, .int (nI (i + 1))), (2, .int (nI (cn (ordP (nmF kd ag) h) i + 1))), (0, .ref (b 0)), (1, .int (nI h))]) hx hb dX3_orderOf_51 hl (k := 3) rfl (nI_i1 _) (by decide) rfl (fun ls hl => ?_)
      refine lv_goto (tgt := 4) hx hb dX3_orderOf_54 (by decide) ?_
      exact ih_4 _ (by omega) (trivial) (by show lv_has ls 4 [(0, .ref (b 0)), (1, .int (nI h)), (2, .int (nI (cn (ordP (nmF kd ag) h) (i + 1)))), (3, .int (nI (i + 1)))]; rw [show (cn (ordP (nmF kd ag) h) (i + 1)) = cn (ordP (nmF kd ag) h) i + 1 from cn_t (decide_eq_true (Or.inl c_23))]; exact lv_sub hl [2, 3, 1, 0] rfl)
    · skip
      refine lv_aload_n hx hb dX3_orderOf_26 rfl (lv_at hl 0 rfl) ?_
      refine lv_iload_n hx hb dX3_orderOf_27 rfl (lv_at hl 3 rfl) ?_
      refine rdV (As := [.int (nI i)]) (rest := [.int (nI (cn (ordP (nmF kd ag) h) i))]) hx hb hml hown hg (c_X3_number l D cI cB aS _ st n td nd nh pl bs kd ag bo pa dm dn hh hn pg sv sd ik ks ktd knd knh kbs kag kbo kpa kdm kdn khh khn hf i (by first | assumption | omega)) gm_503 vf_X3_number ⟨Nat.le_of_ble_eq_true rfl, Nat.le_of_ble_eq_true rfl⟩ ⟨rfl, rfl⟩ ⟨Nat.zero_le _, Nat.zero_le _⟩ (RP.preV hK hP (q0 := 0) (ci := 3) rfl rfl) rfl hl.1 rfl (Nat.le_of_ble_eq_true rfl) dX3_orderOf_28 ?_
      refine lv_aload_n hx hb dX3_orderOf_31 rfl (lv_at hl 0 rfl) ?_
      refine lv_iload_n hx hb dX3_orderOf_32 rfl (lv_at hl 1 rfl) ?_
      refine rdV (As := [.int (nI h)]) (rest := [.int (nmF kd ag i), .int (nI (cn (ordP (nmF kd ag) h) i))]) hx hb hml hown hg (c_X3_number l D cI cB aS _ st n td nd nh pl bs kd ag bo pa dm dn hh hn pg sv sd ik ks ktd knd knh kbs kag kbo kpa kdm kdn khh khn hf h (by first | assumption | omega)) gm_503 vf_X3_number ⟨Nat.le_of_ble_eq_true rfl, Nat.le_of_ble_eq_true rfl⟩ ⟨rfl, rfl⟩ ⟨Nat.zero_le _, Nat.zero_le _⟩ (RP.preV hK hP (q0 := 0) (ci := 3) rfl rfl) rfl hl.1 rfl (Nat.le_of_ble_eq_true rfl) dX3_orderOf_33 ?_
      refine lv_icmp_ne (tgt := 48) hx hb dX3_orderOf_36 (by decide) (fun c_36 => ?_) (fun c_36 => ?_)
      · skip
        refine lv_iconst (v := (nI 0)) hx hb dX3_orderOf_48 (by decide) ?_
        refine nv_iadd hx hb dX3_orderOf_49 ?_
        refine lv_istore_n (lv' := [(2, .int (nI (cn (ordP (nmF kd ag) h) i + 0))), (0, .ref (b 0)), (1, .int (nI h)), (3, .int (nI i))]) hx hb dX3_orderOf_50 rfl hl (by decide) rfl (fun ls hl => ?_)
        refine lv_iinc (v := (nI (i + 1))) (lv' := [(3, .int (nI (i + 1))), (2, .int (nI (cn (ordP (nmF kd ag) h) i + 0))), (0, .ref (b 0)), (1, .int (nI h))]) hx hb dX3_orderOf_51 hl (k := 3) rfl (nI_i1 _) (by decide) rfl (fun ls hl => ?_)
        refine lv_goto (tgt := 4) hx hb dX3_orderOf_54 (by decide) ?_
        exact ih_4 _ (by omega) (trivial) (by show lv_has ls 4 [(0, .ref (b 0)), (1, .int (nI h)), (2, .int (nI (cn (ordP (nmF kd ag) h) (i + 1)))), (3, .int (nI (i + 1)))]; rw [show (cn (ordP (nmF kd ag) h) (i + 1)) = cn (ordP (nmF kd ag) h) i + 0 from cn_f (decide_eq_false (fun q => q.elim c_23 (fun q => c_36 q.1)))]; exact lv_sub hl [2, 3, 1, 0] rfl)
      · skip
        refine lv_iload_n hx hb dX3_orderOf_39 rfl (lv_at hl 3 rfl) ?_
        refine lv_iload_n hx hb dX3_orderOf_40 rfl (lv_at hl 1 rfl) ?_
        refine nv_icmp_ge (tgt := 48) hx hb dX3_orderOf_41 (by omega) (by omega) (by decide) (fun c_41 => ?_) (fun c_41 => ?_)
        · skip
          refine lv_iconst (v := (nI 0)) hx hb dX3_orderOf_48 (by decide) ?_
          refine nv_iadd hx hb dX3_orderOf_49 ?_
          refine lv_istore_n (lv' := [(2, .int (nI (cn (ordP (nmF kd ag) h) i + 0))), (0, .ref (b 0)), (1, .int (nI h)), (3, .int (nI i))]) hx hb dX3_orderOf_50 rfl hl (by decide) rfl (fun ls hl => ?_)
          refine lv_iinc (v := (nI (i + 1))) (lv' := [(3, .int (nI (i + 1))), (2, .int (nI (cn (ordP (nmF kd ag) h) i + 0))), (0, .ref (b 0)), (1, .int (nI h))]) hx hb dX3_orderOf_51 hl (k := 3) rfl (nI_i1 _) (by decide) rfl (fun ls hl => ?_)
          refine lv_goto (tgt := 4) hx hb dX3_orderOf_54 (by decide) ?_
          exact ih_4 _ (by omega) (trivial) (by show lv_has ls 4 [(0, .ref (b 0)), (1, .int (nI h)), (2, .int (nI (cn (ordP (nmF kd ag) h) (i + 1)))), (3, .int (nI (i + 1)))]; rw [show (cn (ordP (nmF kd ag) h) (i + 1)) = cn (ordP (nmF kd ag) h) i + 0 from cn_f (decide_eq_false (fun q => q.elim c_23 (fun q => absurd q.2 (by omega))))]; exact lv_sub hl [2, 3, 1, 0] rfl)
        · skip
          refine lv_iconst (v := (nI 1)) hx hb dX3_orderOf_44 (by decide) ?_
          refine lv_goto (tgt := 49) hx hb dX3_orderOf_45 (by decide) ?_
          refine nv_iadd hx hb dX3_orderOf_49 ?_
          refine lv_istore_n (lv' := [(2, .int (nI (cn (ordP (nmF kd ag) h) i + 1))), (0, .ref (b 0)), (1, .int (nI h)), (3, .int (nI i))]) hx hb dX3_orderOf_50 rfl hl (by decide) rfl (fun ls hl => ?_)
          refine lv_iinc (v := (nI (i + 1))) (lv' := [(3, .int (nI (i + 1))), (2, .int (nI (cn (ordP (nmF kd ag) h) i + 1))), (0, .ref (b 0)), (1, .int (nI h))]) hx hb dX3_orderOf_51 hl (k := 3) rfl (nI_i1 _) (by decide) rfl (fun ls hl => ?_)
          refine lv_goto (tgt := 4) hx hb dX3_orderOf_54 (by decide) ?_
          exact ih_4 _ (by omega) (trivial) (by show lv_has ls 4 [(0, .ref (b 0)), (1, .int (nI h)), (2, .int (nI (cn (ordP (nmF kd ag) h) (i + 1)))), (3, .int (nI (i + 1)))]; rw [show (cn (ordP (nmF kd ag) h) (i + 1)) = cn (ordP (nmF kd ag) h) i + 1 from cn_t (decide_eq_true (Or.inr ⟨c_36, c_41⟩))]; exact lv_sub hl [2, 3, 1, 0] rfl)
abbrev rm_X3_walkNow : Room := { frames := 3, cells := 0, slots := 0, locals := 66 }
theorem vf_X3_orderOf : vfacts RX3 yX3_orderOf cX3_orderOf 4 (some .int) 1 := ⟨⟨rfl, by decide +kernel, by decide +kernel, by decide +kernel⟩, gm_519, gm_716, gm_5, gm_520⟩
set_option maxRecDepth 100000 in
set_option maxHeartbeats 4000000 in
theorem c_X3_walkNow (l : Launch) (D : va_G) (cI cB : ClassId) (aS : Nat) (b : Nat → Nat) (st n td nd nh pl : Nat) (bs : Int32) (kd ag bo pa dm dn hh hn pg sv : Nat → Int32) (sd : Int64) (ik : Int32) (ks ktd knd knh : Nat) (kbs : Int32) (kag kbo kpa kdm kdn khh khn : Nat → Int32) (hf : Int64)  (hn6 : n ≤ 6) : Met l yX3_walkNow (mw yX3_walkNow cX3_walkNow 5 (some .int)) rm_X3_walkNow (RP D cI cB aS (MW cI cB b st n td nd nh pl bs kd ag bo pa dm dn hh hn pg sv sd ik ks ktd knd knh kbs kag kbo kpa kdm kdn khh khn hf) [.ref (b 0)]) (vp_Si (fun r => r = (nI (wkF n (nmF kd ag) n)))) 0 0 (fun _ => False) := by
  refine met_of (by decide) (Nat.le_of_ble_eq_true rfl) ?_
  intro p e s m below meth c ls hx hb hr hml hown hg hlocks hin hK hP hl
  have hown : s.vm.findClass RX3 = some m.cls := hown
  have hl : lv_has ls 5 [(0, .ref (b 0))] := hl
  refine lv_iconst (v := (nI 0)) hx hb dX3_walkNow_0 (by decide) ?_
  refine lv_istore_n (lv' := [(1, .int (nI 0)), (0, .ref (b 0))]) hx hb dX3_walkNow_1 rfl hl (by decide) rfl (fun ls hl => ?_)
  refine lv_iconst (v := (nI 0)) hx hb dX3_walkNow_2 (by decide) ?_
  refine lv_istore_n (lv' := [(2, .int (nI 0)), (1, .int (nI 0)), (0, .ref (b 0))]) hx hb dX3_walkNow_3 rfl hl (by decide) rfl (fun ls hl => ?_)
  refine lv_iconst (v := (nI 0)) hx hb dX3_walkNow_4 (by decide) ?_
  refine lv_istore_n (lv' := [(3, .int (nI 0)), (2, .int (nI 0)), (1, .int (nI 0)), (0, .ref (b 0))]) hx hb dX3_walkNow_5 rfl hl (by decide) rfl (fun ls hl => ?_)
  -- loop at 6
  refine loopR (nL := 5) (B := n) (I := fun t => True) (lv := fun t => [(0, .ref (b 0)), (1, .int (nI (wkF n (nmF kd ag) t))), (2, .int (nI (wkP n (nmF kd ag) t))), (3, .int (nI t))]) 0 (Nat.zero_le _) (trivial) (by show lv_has ls 5 [(0, .ref (b 0)), (1, .int (nI (wkF n (nmF kd ag) 0))), (2, .int (nI (wkP n (nmF kd ag) 0))), (3, .int (nI 0))]; exact lv_sub hl [3, 2, 1, 0] rfl) (fun t ls hj hI hl ih => ?_)
  have hl : lv_has ls 5 [(0, .ref (b 0)), (1, .int (nI (wkF n (nmF kd ag) t))), (2, .int (nI (wkP n (nmF kd ag) t))), (3, .int (nI t))] := hl
  have ih_6 := ih
  refine lv_iload_n hx hb dX3_walkNow_6 rfl (lv_at hl 3 rfl) ?_
  refine lv_aload_n hx hb dX3_walkNow_7 rfl (lv_at hl 0 rfl) ?_
  refine va_get (D := D) (ci := 3) (v := .int (nI n)) (C := RX3) (T := TX3) (N := 32) hx hb hg us_X3 hown hK.1 hP 0 rfl rfl 1 (by decide) (hg _ gm_402) (fun _ h9 => h9) rfl dX3_walkNow_8 ?_
  refine nv_icmp_ge (tgt := 62) hx hb dX3_walkNow_11 (by omega) (by omega) (by decide) (fun c_11 => ?_) (fun c_11 => ?_)
  · skip
    refine lv_iload_n hx hb dX3_walkNow_62 rfl (lv_at hl 1 rfl) ?_
    exact rr_i hx hb hr hlocks dX3_walkNow_63 (by rw [show t = n by omega])
  · skip
    refine lv_iconst (v := (nI 0)) hx hb dX3_walkNow_14 (by decide) ?_
    refine lv_istore (lv' := [(4, .int (nI 0)), (0, .ref (b 0)), (1, .int (nI (wkF n (nmF kd ag) t))), (2, .int (nI (wkP n (nmF kd ag) t))), (3, .int (nI t))]) hx hb dX3_walkNow_15 hl (by decide) rfl (fun ls hl => ?_)
    obtain ⟨w1, w2, w3⟩ := hot_ok (v := (nmF kd ag)) (show t < n by omega)
    have w4 := wkP_lt (n := n) (v := (nmF kd ag)) (t := t) (by omega)
    -- loop at 17
    refine loopR (nL := 5) (B := (hotF n (nmF kd ag) t n)) (I := fun i => True) (lv := fun i => [(0, .ref (b 0)), (1, .int (nI (wkF n (nmF kd ag) t))), (2, .int (nI (wkP n (nmF kd ag) t))), (3, .int (nI t)), (4, .int (nI i))]) 0 (Nat.zero_le _) (trivial) (lv_sub hl [1, 2, 3, 4, 0] rfl) (fun i ls hj hI hl ih => ?_)
    have hl : lv_has ls 5 [(0, .ref (b 0)), (1, .int (nI (wkF n (nmF kd ag) t))), (2, .int (nI (wkP n (nmF kd ag) t))), (3, .int (nI t)), (4, .int (nI i))] := hl
    have ih_17 := ih
    refine lv_aload_n hx hb dX3_walkNow_17 rfl (lv_at hl 0 rfl) ?_
    refine lv_iload hx hb dX3_walkNow_18 (lv_at hl 4 rfl) ?_
    refine rdV (As := [.int (nI i)]) (rest := []) hx hb hml hown hg (c_X3_orderOf l D cI cB aS _ st n td nd nh pl bs kd ag bo pa dm dn hh hn pg sv sd ik ks ktd knd knh kbs kag kbo kpa kdm kdn khh khn hf i (by first | assumption | omega) (by first | assumption | omega)) gm_518 vf_X3_orderOf ⟨Nat.le_of_ble_eq_true rfl, Nat.le_of_ble_eq_true rfl⟩ ⟨rfl, rfl⟩ ⟨Nat.zero_le _, Nat.zero_le _⟩ (RP.preV hK hP (q0 := 0) (ci := 3) rfl rfl) rfl hl.1 rfl (Nat.le_of_ble_eq_true rfl) dX3_walkNow_20 ?_
    refine lv_iload_n hx hb dX3_walkNow_23 rfl (lv_at hl 3 rfl) ?_
    refine nv_icmp_eq (tgt := 33) hx hb dX3_walkNow_24 (by have := ordF_le (n := n) (v := (nmF kd ag)) (h := i); omega) (by omega) (by decide) (fun c_24 => ?_) (fun c_24 => ?_)
    · skip
      have w5 := w3 i (by omega) c_24
      subst w5
      refine lv_iload_n hx hb dX3_walkNow_33 rfl (lv_at hl 1 rfl) ?_
      refine lv_iload hx hb dX3_walkNow_34 (lv_at hl 4 rfl) ?_
      refine lv_iload_n hx hb dX3_walkNow_36 rfl (lv_at hl 2 rfl) ?_
      refine nv_icmp_le (tgt := 47) hx hb dX3_walkNow_37 (by omega) (by omega) (by decide) (fun c_37 => ?_) (fun c_37 => ?_)
      · skip
        refine lv_iload_n hx hb dX3_walkNow_47 rfl (lv_at hl 2 rfl) ?_
        refine lv_iload hx hb dX3_walkNow_48 (lv_at hl 4 rfl) ?_
        refine nv_isub hx hb dX3_walkNow_50 (by omega) ?_
        refine nv_iadd hx hb dX3_walkNow_51 ?_
        refine lv_istore_n (lv' := [(1, .int (nI (wkF n (nmF kd ag) t + ((wkP n (nmF kd ag) t) - (hotF n (nmF kd ag) t n))))), (0, .ref (b 0)), (2, .int (nI (wkP n (nmF kd ag) t))), (3, .int (nI t)), (4, .int (nI (hotF n (nmF kd ag) t n)))]) hx hb dX3_walkNow_52 rfl hl (by decide) rfl (fun ls hl => ?_)
        refine lv_iload hx hb dX3_walkNow_53 (lv_at hl 4 rfl) ?_
        refine lv_istore_n (lv' := [(2, .int (nI (hotF n (nmF kd ag) t n))), (1, .int (nI (wkF n (nmF kd ag) t + ((wkP n (nmF kd ag) t) - (hotF n (nmF kd ag) t n))))), (0, .ref (b 0)), (3, .int (nI t)), (4, .int (nI (hotF n (nmF kd ag) t n)))]) hx hb dX3_walkNow_55 rfl hl (by decide) rfl (fun ls hl => ?_)
        refine lv_iinc (v := (nI (t + 1))) (lv' := [(3, .int (nI (t + 1))), (2, .int (nI (hotF n (nmF kd ag) t n))), (1, .int (nI (wkF n (nmF kd ag) t + ((wkP n (nmF kd ag) t) - (hotF n (nmF kd ag) t n))))), (0, .ref (b 0)), (4, .int (nI (hotF n (nmF kd ag) t n)))]) hx hb dX3_walkNow_56 hl (k := 3) rfl (nI_i1 _) (by decide) rfl (fun ls hl => ?_)
        refine lv_goto (tgt := 6) hx hb dX3_walkNow_59 (by decide) ?_
        exact ih_6 _ (by omega) (trivial) (by show lv_has ls 5 [(0, .ref (b 0)), (1, .int (nI (wkF n (nmF kd ag) (t + 1)))), (2, .int (nI (wkP n (nmF kd ag) (t + 1)))), (3, .int (nI (t + 1)))]; rw [show (wkF n (nmF kd ag) (t + 1)) = wkF n (nmF kd ag) t + ((wkP n (nmF kd ag) t) - (hotF n (nmF kd ag) t n)) from (by simp only [wkF, dstF]; rw [if_neg (by omega)]), show (wkP n (nmF kd ag) (t + 1)) = (hotF n (nmF kd ag) t n) from rfl]; exact lv_sub hl [3, 2, 1, 0] rfl)
      · skip
        refine lv_iload hx hb dX3_walkNow_40 (lv_at hl 4 rfl) ?_
        refine lv_iload_n hx hb dX3_walkNow_42 rfl (lv_at hl 2 rfl) ?_
        refine nv_isub hx hb dX3_walkNow_43 (by omega) ?_
        refine lv_goto (tgt := 51) hx hb dX3_walkNow_44 (by decide) ?_
        refine nv_iadd hx hb dX3_walkNow_51 ?_
        refine lv_istore_n (lv' := [(1, .int (nI (wkF n (nmF kd ag) t + ((hotF n (nmF kd ag) t n) - (wkP n (nmF kd ag) t))))), (0, .ref (b 0)), (2, .int (nI (wkP n (nmF kd ag) t))), (3, .int (nI t)), (4, .int (nI (hotF n (nmF kd ag) t n)))]) hx hb dX3_walkNow_52 rfl hl (by decide) rfl (fun ls hl => ?_)
        refine lv_iload hx hb dX3_walkNow_53 (lv_at hl 4 rfl) ?_
        refine lv_istore_n (lv' := [(2, .int (nI (hotF n (nmF kd ag) t n))), (1, .int (nI (wkF n (nmF kd ag) t + ((hotF n (nmF kd ag) t n) - (wkP n (nmF kd ag) t))))), (0, .ref (b 0)), (3, .int (nI t)), (4, .int (nI (hotF n (nmF kd ag) t n)))]) hx hb dX3_walkNow_55 rfl hl (by decide) rfl (fun ls hl => ?_)
        refine lv_iinc (v := (nI (t + 1))) (lv' := [(3, .int (nI (t + 1))), (2, .int (nI (hotF n (nmF kd ag) t n))), (1, .int (nI (wkF n (nmF kd ag) t + ((hotF n (nmF kd ag) t n) - (wkP n (nmF kd ag) t))))), (0, .ref (b 0)), (4, .int (nI (hotF n (nmF kd ag) t n)))]) hx hb dX3_walkNow_56 hl (k := 3) rfl (nI_i1 _) (by decide) rfl (fun ls hl => ?_)
        refine lv_goto (tgt := 6) hx hb dX3_walkNow_59 (by decide) ?_
        exact ih_6 _ (by omega) (trivial) (by show lv_has ls 5 [(0, .ref (b 0)), (1, .int (nI (wkF n (nmF kd ag) (t + 1)))), (2, .int (nI (wkP n (nmF kd ag) (t + 1)))), (3, .int (nI (t + 1)))]; rw [show (wkF n (nmF kd ag) (t + 1)) = wkF n (nmF kd ag) t + ((hotF n (nmF kd ag) t n) - (wkP n (nmF kd ag) t)) from (by simp only [wkF, dstF]; rw [if_pos (by omega)]), show (wkP n (nmF kd ag) (t + 1)) = (hotF n (nmF kd ag) t n) from rfl]; exact lv_sub hl [3, 2, 1, 0] rfl)
    · skip
      refine lv_iinc (v := (nI (i + 1))) (lv' := [(4, .int (nI (i + 1))), (0, .ref (b 0)), (1, .int (nI (wkF n (nmF kd ag) t))), (2, .int (nI (wkP n (nmF kd ag) t))), (3, .int (nI t))]) hx hb dX3_walkNow_27 hl (k := 4) rfl (nI_i1 _) (by decide) rfl (fun ls hl => ?_)
      refine lv_goto (tgt := 17) hx hb dX3_walkNow_30 (by decide) ?_
      exact ih_17 _ (by have : i ≠ hotF n (nmF kd ag) t n := (fun q => c_24 (by rw [q]; exact w2)); omega) (trivial) (lv_sub hl [1, 2, 3, 4, 0] rfl)
abbrev rm_X3_houseOf : Room := { frames := 2, cells := 0, slots := 0, locals := 44 }
theorem vf_X3_numberOn : vfacts RX3 yX3_numberOn cX3_numberOn 3 (some .int) 2 := ⟨⟨rfl, by decide +kernel, by decide +kernel, by decide +kernel⟩, gm_516, gm_715, gm_5, gm_517⟩
set_option maxRecDepth 100000 in
set_option maxHeartbeats 4000000 in
theorem c_X3_houseOf (l : Launch) (D : va_G) (cI cB : ClassId) (aS : Nat) (b : Nat → Nat) (st n td nd nh pl : Nat) (bs : Int32) (kd ag bo pa dm dn hh hn pg sv : Nat → Int32) (sd : Int64) (ik : Int32) (ks ktd knd knh : Nat) (kbs : Int32) (kag kbo kpa kdm kdn khh khn : Nat → Int32) (hf : Int64) (x : Int32) (d : Nat) (hn6 : n ≤ 6) (qd : d ≤ td) (qt : td ≤ 30) : Met l yX3_houseOf (mw yX3_houseOf cX3_houseOf 5 (some .int)) rm_X3_houseOf (RP D cI cB aS (MW cI cB b st n td nd nh pl bs kd ag bo pa dm dn hh hn pg sv sd ik ks ktd knd knh kbs kag kbo kpa kdm kdn khh khn hf) [.ref (b 0), .int x, .int (nI d)]) (vp_Si (fun r => r = (hwF n (fun h => numOn kd ag pa td h d) x))) 0 0 (fun _ => False) := by
  refine met_of (by decide) (Nat.le_of_ble_eq_true rfl) ?_
  intro p e s m below meth c ls hx hb hr hml hown hg hlocks hin hK hP hl
  have hown : s.vm.findClass RX3 = some m.cls := hown
  have hl : lv_has ls 5 [(0, .ref (b 0)), (1, .int x), (2, .int (nI d))] := hl
  refine lv_iconst (v := (-1)) hx hb dX3_houseOf_0 (by decide) ?_
  refine lv_istore_n (lv' := [(3, .int (-1)), (0, .ref (b 0)), (1, .int x), (2, .int (nI d))]) hx hb dX3_houseOf_1 rfl hl (by decide) rfl (fun ls hl => ?_)
  refine lv_aload_n hx hb dX3_houseOf_2 rfl (lv_at hl 1 rfl) ?_
  refine va_get (D := D) (ci := 3) (v := .int (nI n)) (C := RX3) (T := TX3) (N := 32) hx hb hg us_X3 hown hK.1 hP 0 rfl rfl 1 (by decide) (hg _ gm_402) (fun _ h9 => h9) rfl dX3_houseOf_3 ?_
  refine lv_iconst (v := (nI 1)) hx hb dX3_houseOf_6 (by decide) ?_
  refine lv_isub hx hb dX3_houseOf_7 ?_
  refine lv_istore (lv' := [(4, .int ((nI n) - (nI 1))), (3, .int (-1)), (0, .ref (b 0)), (1, .int x), (2, .int (nI d))]) hx hb dX3_houseOf_8 hl (by decide) rfl (fun ls hl => ?_)
  -- loop at 10
  refine loopR (nL := 5) (B := n) (I := fun i => True) (lv := fun i => [(0, .ref (b 0)), (1, .int x), (2, .int (nI d)), (3, .int (ff (hwP (fun h => numOn kd ag pa td h d) x) (n - i) i)), (4, .int ((nI (n - i)) - (nI 1)))]) 0 (Nat.zero_le _) (trivial) (by show lv_has ls 5 [(0, .ref (b 0)), (1, .int x), (2, .int (nI d)), (3, .int (ff (hwP (fun h => numOn kd ag pa td h d) x) (n - 0) 0)), (4, .int ((nI (n - 0)) - (nI 1)))]; exact lv_sub hl [2, 3, 4, 1, 0] rfl) (fun i ls hj hI hl ih => ?_)
  have hl : lv_has ls 5 [(0, .ref (b 0)), (1, .int x), (2, .int (nI d)), (3, .int (ff (hwP (fun h => numOn kd ag pa td h d) x) (n - i) i)), (4, .int ((nI (n - i)) - (nI 1)))] := hl
  have ih_10 := ih
  refine lv_iload hx hb dX3_houseOf_10 (lv_at hl 4 rfl) ?_
  refine lv_if_lt (tgt := 39) hx hb dX3_houseOf_12 (by decide) (fun c_12 => ?_) (fun c_12 => ?_)
  · skip
    refine lv_iload_n hx hb dX3_houseOf_39 rfl (lv_at hl 3 rfl) ?_
    exact rr_i hx hb hr hlocks dX3_houseOf_40 (by unfold hwF; have e := sub1_neg (by omega) c_12; rw [show i = n by omega, Nat.sub_self])
  · skip
    obtain ⟨k, ek⟩ := sub1_pos (by omega) c_12
    rw [show (nI (n - i)) - (nI 1) = nI k from by rw [ek]; exact sub1_s k] at hl
    refine lv_aload_n hx hb dX3_houseOf_15 rfl (lv_at hl 0 rfl) ?_
    refine lv_iload hx hb dX3_houseOf_16 (lv_at hl 4 rfl) ?_
    refine lv_iload_n hx hb dX3_houseOf_18 rfl (lv_at hl 2 rfl) ?_
    refine rdV (As := [.int (nI k), .int (nI d)]) (rest := []) hx hb hml hown hg (c_X3_numberOn l D cI cB aS _ st n td nd nh pl bs kd ag bo pa dm dn hh hn pg sv sd ik ks ktd knd knh kbs kag kbo kpa kdm kdn khh khn hf k d (by first | assumption | omega) (by first | assumption | omega) (by first | assumption | omega)) gm_515 vf_X3_numberOn ⟨Nat.le_of_ble_eq_true rfl, Nat.le_of_ble_eq_true rfl⟩ ⟨rfl, rfl⟩ ⟨Nat.zero_le _, Nat.zero_le _⟩ (RP.preV hK hP (q0 := 0) (ci := 3) rfl rfl) rfl hl.1 rfl (Nat.le_of_ble_eq_true rfl) dX3_houseOf_19 ?_
    refine lv_iload_n hx hb dX3_houseOf_22 rfl (lv_at hl 1 rfl) ?_
    refine lv_icmp_ne (tgt := 31) hx hb dX3_houseOf_23 (by decide) (fun c_23 => ?_) (fun c_23 => ?_)
    · skip
      refine lv_iload_n hx hb dX3_houseOf_31 rfl (lv_at hl 3 rfl) ?_
      refine lv_istore_n (lv' := [(3, .int (ff (hwP (fun h => numOn kd ag pa td h d) x) (n - i) i)), (0, .ref (b 0)), (1, .int x), (2, .int (nI d)), (4, .int (nI k))]) hx hb dX3_houseOf_32 rfl hl (by decide) rfl (fun ls hl => ?_)
      refine lv_iinc (v := ((nI k) + Int32.ofInt (-1))) (lv' := [(4, .int ((nI k) + Int32.ofInt (-1))), (3, .int (ff (hwP (fun h => numOn kd ag pa td h d) x) (n - i) i)), (0, .ref (b 0)), (1, .int x), (2, .int (nI d))]) hx hb dX3_houseOf_33 hl (k := 4) rfl rfl (by decide) rfl (fun ls hl => ?_)
      refine lv_goto (tgt := 10) hx hb dX3_houseOf_36 (by decide) ?_
      exact ih_10 _ (by omega) (trivial) (by show lv_has ls 5 [(0, .ref (b 0)), (1, .int x), (2, .int (nI d)), (3, .int (ff (hwP (fun h => numOn kd ag pa td h d) x) (n - (i + 1)) (i + 1))), (4, .int ((nI (n - (i + 1))) - (nI 1)))]; rw [show (ff (hwP (fun h => numOn kd ag pa td h d) x) (n - (i + 1)) (i + 1)) = ff (hwP (fun h => numOn kd ag pa td h d) x) (n - i) i from (by rw [show n - (i + 1) = k by omega]; exact ff_f_at c_23 (by omega)), show ((nI (n - (i + 1))) - (nI 1)) = (nI k) + Int32.ofInt (-1) from (by rw [show n - (i + 1) = k by omega]; exact (dec_eq k).symm)]; exact lv_sub hl [2, 3, 4, 1, 0] rfl)
    · skip
      refine lv_iload hx hb dX3_houseOf_26 (lv_at hl 4 rfl) ?_
      refine lv_goto (tgt := 32) hx hb dX3_houseOf_28 (by decide) ?_
      refine lv_istore_n (lv' := [(3, .int (nI k)), (0, .ref (b 0)), (1, .int x), (2, .int (nI d)), (4, .int (nI k))]) hx hb dX3_houseOf_32 rfl hl (by decide) rfl (fun ls hl => ?_)
      refine lv_iinc (v := ((nI k) + Int32.ofInt (-1))) (lv' := [(4, .int ((nI k) + Int32.ofInt (-1))), (3, .int (nI k)), (0, .ref (b 0)), (1, .int x), (2, .int (nI d))]) hx hb dX3_houseOf_33 hl (k := 4) rfl rfl (by decide) rfl (fun ls hl => ?_)
      refine lv_goto (tgt := 10) hx hb dX3_houseOf_36 (by decide) ?_
      exact ih_10 _ (by omega) (trivial) (by show lv_has ls 5 [(0, .ref (b 0)), (1, .int x), (2, .int (nI d)), (3, .int (ff (hwP (fun h => numOn kd ag pa td h d) x) (n - (i + 1)) (i + 1))), (4, .int ((nI (n - (i + 1))) - (nI 1)))]; rw [show ((ff (hwP (fun h => numOn kd ag pa td h d) x) (n - (i + 1)) (i + 1))) = (nI k) from (by rw [show n - (i + 1) = k by omega]; exact ff_t (decide_eq_true c_23)), show ((nI (n - (i + 1))) - (nI 1)) = (nI k) + Int32.ofInt (-1) from (by rw [show n - (i + 1) = k by omega]; exact (dec_eq k).symm)]; exact lv_sub hl [2, 3, 4, 1, 0] rfl)
abbrev rm_X3_owes : Room := { frames := 3, cells := 0, slots := 0, locals := 68 }
theorem vf_X3_houseOf : vfacts RX3 yX3_houseOf cX3_houseOf 5 (some .int) 2 := ⟨⟨rfl, by decide +kernel, by decide +kernel, by decide +kernel⟩, gm_513, gm_714, gm_5, gm_514⟩
set_option maxRecDepth 100000 in
set_option maxHeartbeats 4000000 in
theorem c_X3_owes (l : Launch) (D : va_G) (cI cB : ClassId) (aS : Nat) (b : Nat → Nat) (st n td nd nh pl : Nat) (bs : Int32) (kd ag bo pa dm dn hh hn pg sv : Nat → Int32) (sd : Int64) (ik : Int32) (ks ktd knd knh : Nat) (kbs : Int32) (kag kbo kpa kdm kdn khh khn : Nat → Int32) (hf : Int64) (h : Nat) (qh : h < n) (hn6 : n ≤ 6) (qnd : nd ≤ 6) (qt : td ≤ 30) : Met l yX3_owes (mw yX3_owes cX3_owes 4 (some .int)) rm_X3_owes (RP D cI cB aS (MW cI cB b st n td nd nh pl bs kd ag bo pa dm dn hh hn pg sv sd ik ks ktd knd knh kbs kag kbo kpa kdm kdn khh khn hf) [.ref (b 0), .int (nI h)]) (vp_Si (fun r => r = (owF n (nmF kd ag) dm dn nd h))) 0 0 (fun _ => False) := by
  refine met_of (by decide) (Nat.le_of_ble_eq_true rfl) ?_
  intro p e s m below meth c ls hx hb hr hml hown hg hlocks hin hK hP hl
  have hown : s.vm.findClass RX3 = some m.cls := hown
  have hl : lv_has ls 4 [(0, .ref (b 0)), (1, .int (nI h))] := hl
  refine lv_iconst (v := (nI 0)) hx hb dX3_owes_0 (by decide) ?_
  refine lv_istore_n (lv' := [(2, .int (nI 0)), (0, .ref (b 0)), (1, .int (nI h))]) hx hb dX3_owes_1 rfl hl (by decide) rfl (fun ls hl => ?_)
  refine lv_iconst (v := (nI 0)) hx hb dX3_owes_2 (by decide) ?_
  refine lv_istore_n (lv' := [(3, .int (nI 0)), (2, .int (nI 0)), (0, .ref (b 0)), (1, .int (nI h))]) hx hb dX3_owes_3 rfl hl (by decide) rfl (fun ls hl => ?_)
  -- loop at 4
  refine loopR (nL := 4) (B := nd) (I := fun i => True) (lv := fun i => [(0, .ref (b 0)), (1, .int (nI h)), (2, .int (sm (fun k => if hwF n (nmF kd ag) (dn k) = nI h then dm k else nI 0) i)), (3, .int (nI i))]) 0 (Nat.zero_le _) (trivial) (by show lv_has ls 4 [(0, .ref (b 0)), (1, .int (nI h)), (2, .int (sm (fun k => if hwF n (nmF kd ag) (dn k) = nI h then dm k else nI 0) 0)), (3, .int (nI 0))]; exact lv_sub hl [2, 3, 1, 0] rfl) (fun i ls hj hI hl ih => ?_)
  have hl : lv_has ls 4 [(0, .ref (b 0)), (1, .int (nI h)), (2, .int (sm (fun k => if hwF n (nmF kd ag) (dn k) = nI h then dm k else nI 0) i)), (3, .int (nI i))] := hl
  have ih_4 := ih
  refine lv_iload_n hx hb dX3_owes_4 rfl (lv_at hl 3 rfl) ?_
  refine lv_aload_n hx hb dX3_owes_5 rfl (lv_at hl 0 rfl) ?_
  refine va_get (D := D) (ci := 3) (v := .int (nI nd)) (C := RX3) (T := TX3) (N := 32) hx hb hg us_X3 hown hK.1 hP 0 rfl rfl 8 (by decide) (hg _ gm_409) (fun _ h9 => h9) rfl dX3_owes_6 ?_
  refine nv_icmp_ge (tgt := 49) hx hb dX3_owes_9 (by omega) (by omega) (by decide) (fun c_9 => ?_) (fun c_9 => ?_)
  · skip
    refine lv_iload_n hx hb dX3_owes_49 rfl (lv_at hl 2 rfl) ?_
    exact rr_i hx hb hr hlocks dX3_owes_50 (by unfold owF; rw [show i = nd by omega])
  · skip
    refine lv_iload_n hx hb dX3_owes_12 rfl (lv_at hl 2 rfl) ?_
    refine lv_aload_n hx hb dX3_owes_13 rfl (lv_at hl 0 rfl) ?_
    refine lv_aload_n hx hb dX3_owes_14 rfl (lv_at hl 0 rfl) ?_
    refine va_get (D := D) (ci := 3) (v := .ref (b 6)) (C := RX3) (T := TX3) (N := 32) hx hb hg us_X3 hown hK.1 hP 0 rfl rfl 10 (by decide) (hg _ gm_411) (fun _ h9 => h9) rfl dX3_owes_15 ?_
    refine lv_iload_n hx hb dX3_owes_18 rfl (lv_at hl 3 rfl) ?_
    refine nv_iald hx hb hK.1 hP 6 0 rfl rfl (by omega) (by decide) dX3_owes_19 ?_
    refine lv_aload_n hx hb dX3_owes_20 rfl (lv_at hl 0 rfl) ?_
    refine va_get (D := D) (ci := 3) (v := .int (nI td)) (C := RX3) (T := TX3) (N := 32) hx hb hg us_X3 hown hK.1 hP 0 rfl rfl 6 (by decide) (hg _ gm_407) (fun _ h9 => h9) rfl dX3_owes_21 ?_
    refine rdV (As := [.int (dn i), .int (nI td)]) (rest := [.int (sm (fun k => if hwF n (nmF kd ag) (dn k) = nI h then dm k else nI 0) i)]) hx hb hml hown hg (c_X3_houseOf l D cI cB aS _ st n td nd nh pl bs kd ag bo pa dm dn hh hn pg sv sd ik ks ktd knd knh kbs kag kbo kpa kdm kdn khh khn hf (dn i) td (by first | assumption | omega) (by first | assumption | omega) (by first | assumption | omega)) gm_512 vf_X3_houseOf ⟨Nat.le_of_ble_eq_true rfl, Nat.le_of_ble_eq_true rfl⟩ ⟨rfl, rfl⟩ ⟨Nat.zero_le _, Nat.zero_le _⟩ (RP.preV hK hP (q0 := 0) (ci := 3) rfl rfl) rfl hl.1 rfl (Nat.le_of_ble_eq_true rfl) dX3_owes_24 ?_
    rw [show ((hwF n (fun h => numOn kd ag pa td h td) (dn i)) : Int32) = (hwF n (nmF kd ag) (dn i)) from hwF_now]
    refine lv_iload_n hx hb dX3_owes_27 rfl (lv_at hl 1 rfl) ?_
    refine lv_icmp_ne (tgt := 40) hx hb dX3_owes_28 (by decide) (fun c_28 => ?_) (fun c_28 => ?_)
    · skip
      refine lv_iconst (v := (nI 0)) hx hb dX3_owes_40 (by decide) ?_
      refine lv_iadd hx hb dX3_owes_41 ?_
      refine lv_istore_n (lv' := [(2, .int ((sm (fun k => if hwF n (nmF kd ag) (dn k) = nI h then dm k else nI 0) i) + (nI 0))), (0, .ref (b 0)), (1, .int (nI h)), (3, .int (nI i))]) hx hb dX3_owes_42 rfl hl (by decide) rfl (fun ls hl => ?_)
      refine lv_iinc (v := (nI (i + 1))) (lv' := [(3, .int (nI (i + 1))), (2, .int ((sm (fun k => if hwF n (nmF kd ag) (dn k) = nI h then dm k else nI 0) i) + (nI 0))), (0, .ref (b 0)), (1, .int (nI h))]) hx hb dX3_owes_43 hl (k := 3) rfl (nI_i1 _) (by decide) rfl (fun ls hl => ?_)
      refine lv_goto (tgt := 4) hx hb dX3_owes_46 (by decide) ?_
      exact ih_4 _ (by omega) (trivial) (by show lv_has ls 4 [(0, .ref (b 0)), (1, .int (nI h)), (2, .int (sm (fun k => if hwF n (nmF kd ag) (dn k) = nI h then dm k else nI 0) (i + 1))), (3, .int (nI (i + 1)))]; rw [show (sm (fun k => if hwF n (nmF kd ag) (dn k) = nI h then dm k else nI 0) (i + 1)) = (sm (fun k => if hwF n (nmF kd ag) (dn k) = nI h then dm k else nI 0) i) + (nI 0) from (by simp only [sm]; rw [if_neg c_28])]; exact lv_sub hl [2, 3, 1, 0] rfl)
    · skip
      refine lv_aload_n hx hb dX3_owes_31 rfl (lv_at hl 0 rfl) ?_
      refine va_get (D := D) (ci := 3) (v := .ref (b 5)) (C := RX3) (T := TX3) (N := 32) hx hb hg us_X3 hown hK.1 hP 0 rfl rfl 9 (by decide) (hg _ gm_410) (fun _ h9 => h9) rfl dX3_owes_32 ?_
      refine lv_iload_n hx hb dX3_owes_35 rfl (lv_at hl 3 rfl) ?_
      refine nv_iald hx hb hK.1 hP 5 0 rfl rfl (by omega) (by decide) dX3_owes_36 ?_
      refine lv_goto (tgt := 41) hx hb dX3_owes_37 (by decide) ?_
      refine lv_iadd hx hb dX3_owes_41 ?_
      refine lv_istore_n (lv' := [(2, .int ((sm (fun k => if hwF n (nmF kd ag) (dn k) = nI h then dm k else nI 0) i) + (dm i))), (0, .ref (b 0)), (1, .int (nI h)), (3, .int (nI i))]) hx hb dX3_owes_42 rfl hl (by decide) rfl (fun ls hl => ?_)
      refine lv_iinc (v := (nI (i + 1))) (lv' := [(3, .int (nI (i + 1))), (2, .int ((sm (fun k => if hwF n (nmF kd ag) (dn k) = nI h then dm k else nI 0) i) + (dm i))), (0, .ref (b 0)), (1, .int (nI h))]) hx hb dX3_owes_43 hl (k := 3) rfl (nI_i1 _) (by decide) rfl (fun ls hl => ?_)
      refine lv_goto (tgt := 4) hx hb dX3_owes_46 (by decide) ?_
      exact ih_4 _ (by omega) (trivial) (by show lv_has ls 4 [(0, .ref (b 0)), (1, .int (nI h)), (2, .int (sm (fun k => if hwF n (nmF kd ag) (dn k) = nI h then dm k else nI 0) (i + 1))), (3, .int (nI (i + 1)))]; rw [show (sm (fun k => if hwF n (nmF kd ag) (dn k) = nI h then dm k else nI 0) (i + 1)) = (sm (fun k => if hwF n (nmF kd ag) (dn k) = nI h then dm k else nI 0) i) + (dm i) from (by simp only [sm]; rw [if_pos c_28])]; exact lv_sub hl [2, 3, 1, 0] rfl)
abbrev rm_X3_houseNow : Room := { frames := 4, cells := 0, slots := 0, locals := 91 }
theorem vf_X3_owes : vfacts RX3 yX3_owes cX3_owes 4 (some .int) 1 := ⟨⟨rfl, by decide +kernel, by decide +kernel, by decide +kernel⟩, gm_510, gm_713, gm_5, gm_511⟩
set_option maxRecDepth 100000 in
set_option maxHeartbeats 4000000 in
theorem c_X3_houseNow (l : Launch) (D : va_G) (cI cB : ClassId) (aS : Nat) (b : Nat → Nat) (st n td nd nh pl : Nat) (bs : Int32) (kd ag bo pa dm dn hh hn pg sv : Nat → Int32) (sd : Int64) (ik : Int32) (ks ktd knd knh : Nat) (kbs : Int32) (kag kbo kpa kdm kdn khh khn : Nat → Int32) (hf : Int64) (h w : Nat) (qh : h < n) (hn6 : n ≤ 6) (qnd : nd ≤ 6) (qt : td ≤ 30) (qw : w ≤ 5) : Met l yX3_houseNow (mw yX3_houseNow cX3_houseNow 3 (some .int)) rm_X3_houseNow (RP D cI cB aS (MW cI cB b st n td nd nh pl bs kd ag bo pa dm dn hh hn pg sv sd ik ks ktd knd knh kbs kag kbo kpa kdm kdn khh khn hf) [.ref (b 0), .int (nI h), .int (nI w)]) (vp_Si (fun r => r = (abF n kd ag bo dm dn nd h w))) 0 0 (fun _ => False) := by
  refine met_of (by decide) (Nat.le_of_ble_eq_true rfl) ?_
  intro p e s m below meth c ls hx hb hr hml hown hg hlocks hin hK hP hl
  have hown : s.vm.findClass RX3 = some m.cls := hown
  have hl : lv_has ls 3 [(0, .ref (b 0)), (1, .int (nI h)), (2, .int (nI w))] := hl
  refine lv_iload_n hx hb dX3_houseNow_0 rfl (lv_at hl 2 rfl) ?_
  rcases (show w = 0 ∨ w = 1 ∨ w = 2 ∨ w = 3 ∨ w = 4 ∨ w = 5 by omega) with rfl | rfl | rfl | rfl | rfl | rfl
  · refine lv_tableIn (off := 35) (tgt := 36) hx hb dX3_houseNow_1 (by decide) (by decide) rfl (by decide) ?_
    refine lv_aload_n hx hb dX3_houseNow_36 rfl (lv_at hl 0 rfl) ?_
    refine va_get (D := D) (ci := 3) (v := .ref (b 1)) (C := RX3) (T := TX3) (N := 32) hx hb hg us_X3 hown hK.1 hP 0 rfl rfl 2 (by decide) (hg _ gm_403) (fun _ h9 => h9) rfl dX3_houseNow_37 ?_
    refine lv_iload_n hx hb dX3_houseNow_40 rfl (lv_at hl 1 rfl) ?_
    refine nv_iald hx hb hK.1 hP 1 0 rfl rfl (by omega) (by decide) dX3_houseNow_41 ?_
    exact rr_i hx hb hr hlocks dX3_houseNow_42 rfl
  · refine lv_tableIn (off := 42) (tgt := 43) hx hb dX3_houseNow_1 (by decide) (by decide) rfl (by decide) ?_
    refine lv_aload_n hx hb dX3_houseNow_43 rfl (lv_at hl 0 rfl) ?_
    refine va_get (D := D) (ci := 3) (v := .ref (b 2)) (C := RX3) (T := TX3) (N := 32) hx hb hg us_X3 hown hK.1 hP 0 rfl rfl 3 (by decide) (hg _ gm_404) (fun _ h9 => h9) rfl dX3_houseNow_44 ?_
    refine lv_iload_n hx hb dX3_houseNow_47 rfl (lv_at hl 1 rfl) ?_
    refine nv_iald hx hb hK.1 hP 2 0 rfl rfl (by omega) (by decide) dX3_houseNow_48 ?_
    exact rr_i hx hb hr hlocks dX3_houseNow_49 rfl
  · refine lv_tableIn (off := 49) (tgt := 50) hx hb dX3_houseNow_1 (by decide) (by decide) rfl (by decide) ?_
    refine lv_aload_n hx hb dX3_houseNow_50 rfl (lv_at hl 0 rfl) ?_
    refine lv_iload_n hx hb dX3_houseNow_51 rfl (lv_at hl 1 rfl) ?_
    refine rdV (As := [.int (nI h)]) (rest := []) hx hb hml hown hg (c_X3_number l D cI cB aS _ st n td nd nh pl bs kd ag bo pa dm dn hh hn pg sv sd ik ks ktd knd knh kbs kag kbo kpa kdm kdn khh khn hf h (by first | assumption | omega)) gm_503 vf_X3_number ⟨Nat.le_of_ble_eq_true rfl, Nat.le_of_ble_eq_true rfl⟩ ⟨rfl, rfl⟩ ⟨Nat.zero_le _, Nat.zero_le _⟩ (RP.preV hK hP (q0 := 0) (ci := 3) rfl rfl) rfl hl.1 rfl (Nat.le_of_ble_eq_true rfl) dX3_houseNow_52 ?_
    exact rr_i hx hb hr hlocks dX3_houseNow_55 rfl
  · refine lv_tableIn (off := 55) (tgt := 56) hx hb dX3_houseNow_1 (by decide) (by decide) rfl (by decide) ?_
    refine lv_aload_n hx hb dX3_houseNow_56 rfl (lv_at hl 0 rfl) ?_
    refine va_get (D := D) (ci := 3) (v := .ref (b 3)) (C := RX3) (T := TX3) (N := 32) hx hb hg us_X3 hown hK.1 hP 0 rfl rfl 4 (by decide) (hg _ gm_405) (fun _ h9 => h9) rfl dX3_houseNow_57 ?_
    refine lv_iload_n hx hb dX3_houseNow_60 rfl (lv_at hl 1 rfl) ?_
    refine nv_iald hx hb hK.1 hP 3 0 rfl rfl (by omega) (by decide) dX3_houseNow_61 ?_
    exact rr_i hx hb hr hlocks dX3_houseNow_62 rfl
  · refine lv_tableIn (off := 62) (tgt := 63) hx hb dX3_houseNow_1 (by decide) (by decide) rfl (by decide) ?_
    refine lv_aload_n hx hb dX3_houseNow_63 rfl (lv_at hl 0 rfl) ?_
    refine lv_iload_n hx hb dX3_houseNow_64 rfl (lv_at hl 1 rfl) ?_
    refine rdV (As := [.int (nI h)]) (rest := []) hx hb hml hown hg (c_X3_owes l D cI cB aS _ st n td nd nh pl bs kd ag bo pa dm dn hh hn pg sv sd ik ks ktd knd knh kbs kag kbo kpa kdm kdn khh khn hf h (by first | assumption | omega) (by first | assumption | omega) (by first | assumption | omega) (by first | assumption | omega)) gm_509 vf_X3_owes ⟨Nat.le_of_ble_eq_true rfl, Nat.le_of_ble_eq_true rfl⟩ ⟨rfl, rfl⟩ ⟨Nat.zero_le _, Nat.zero_le _⟩ (RP.preV hK hP (q0 := 0) (ci := 3) rfl rfl) rfl hl.1 rfl (Nat.le_of_ble_eq_true rfl) dX3_houseNow_65 ?_
    exact rr_i hx hb hr hlocks dX3_houseNow_68 rfl
  · refine lv_tableOut (tgt := 69) hx hb dX3_houseNow_1 (by decide) (by decide) ?_
    refine lv_aload_n hx hb dX3_houseNow_69 rfl (lv_at hl 0 rfl) ?_
    refine lv_iload_n hx hb dX3_houseNow_70 rfl (lv_at hl 1 rfl) ?_
    refine rdV (As := [.int (nI h)]) (rest := []) hx hb hml hown hg (c_X3_orderOf l D cI cB aS _ st n td nd nh pl bs kd ag bo pa dm dn hh hn pg sv sd ik ks ktd knd knh kbs kag kbo kpa kdm kdn khh khn hf h (by first | assumption | omega) (by first | assumption | omega)) gm_518 vf_X3_orderOf ⟨Nat.le_of_ble_eq_true rfl, Nat.le_of_ble_eq_true rfl⟩ ⟨rfl, rfl⟩ ⟨Nat.zero_le _, Nat.zero_le _⟩ (RP.preV hK hP (q0 := 0) (ci := 3) rfl rfl) rfl hl.1 rfl (Nat.le_of_ble_eq_true rfl) dX3_houseNow_71 ?_
    exact rr_i hx hb hr hlocks dX3_houseNow_74 rfl
abbrev rm_X3_about : Room := { frames := 5, cells := 0, slots := 0, locals := 113 }
theorem vf_X3_isHouse : vfacts RX3 yX3_isHouse cX3_isHouse 2 (some .boolean) 1 := ⟨⟨rfl, by decide +kernel, by decide +kernel, by decide +kernel⟩, gm_498, gm_709, gm_5, gm_499⟩
theorem vf_X3_houseNow : vfacts RX3 yX3_houseNow cX3_houseNow 3 (some .int) 2 := ⟨⟨rfl, by decide +kernel, by decide +kernel, by decide +kernel⟩, gm_501, gm_710, gm_5, gm_502⟩
set_option maxRecDepth 100000 in
set_option maxHeartbeats 4000000 in
theorem c_X3_about (l : Launch) (D : va_G) (cI cB : ClassId) (aS : Nat) (b : Nat → Nat) (st n td nd nh pl : Nat) (bs : Int32) (kd ag bo pa dm dn hh hn pg sv : Nat → Int32) (sd : Int64) (ik : Int32) (ks ktd knd knh : Nat) (kbs : Int32) (kag kbo kpa kdm kdn khh khn : Nat → Int32) (hf : Int64) (x w : Int32) (hn6 : n ≤ 6) (qnd : nd ≤ 6) (qt : td ≤ 30) : Met l yX3_about (mw yX3_about cX3_about 3 (some .int)) rm_X3_about (RP D cI cB aS (MW cI cB b st n td nd nh pl bs kd ag bo pa dm dn hh hn pg sv sd ik ks ktd knd knh kbs kag kbo kpa kdm kdn khh khn hf) [.ref (b 0), .int x, .int w]) (vp_Si (fun r => r = (abtF n kd ag bo dm dn nd x w))) 0 0 (fun _ => False) := by
  refine met_of (by decide) (Nat.le_of_ble_eq_true rfl) ?_
  intro p e s m below meth c ls hx hb hr hml hown hg hlocks hin hK hP hl
  have hown : s.vm.findClass RX3 = some m.cls := hown
  have hl : lv_has ls 3 [(0, .ref (b 0)), (1, .int x), (2, .int w)] := hl
  refine lv_aload_n hx hb dX3_about_0 rfl (lv_at hl 0 rfl) ?_
  refine lv_iload_n hx hb dX3_about_1 rfl (lv_at hl 1 rfl) ?_
  refine rdV (As := [.int x]) (rest := []) hx hb hml hown hg (c_X3_isHouse l D cI cB aS _ st n td nd nh pl bs kd ag bo pa dm dn hh hn pg sv sd ik ks ktd knd knh kbs kag kbo kpa kdm kdn khh khn hf x (by first | assumption | omega)) gm_497 vf_X3_isHouse ⟨Nat.le_of_ble_eq_true rfl, Nat.le_of_ble_eq_true rfl⟩ ⟨rfl, rfl⟩ ⟨Nat.zero_le _, Nat.zero_le _⟩ (RP.preV hK hP (q0 := 0) (ci := 3) rfl rfl) rfl hl.1 rfl (Nat.le_of_ble_eq_true rfl) dX3_about_2 ?_
  refine bv_if_ne (tgt := 13) hx hb dX3_about_5 (by decide) (fun c_5 => ?_) (fun c_5 => ?_)
  · skip
    obtain ⟨j, qj, ex⟩ := hIn_of c_5 (by omega)
    subst ex
    refine lv_iload_n hx hb dX3_about_13 rfl (lv_at hl 2 rfl) ?_
    refine lv_iconst (v := (nI 0)) hx hb dX3_about_14 (by decide) ?_
    refine lv_iconst (v := (nI 5)) hx hb dX3_about_15 (by decide) ?_
    refine rdS (As := [.int w, .int (nI 0), .int (nI 5)]) (rest := []) hx hb hml hown hg (c_X3_within l D cI cB aS w (nI 0) (nI 5)) gm_469 sf_X3_within ⟨Nat.le_of_ble_eq_true rfl, Nat.le_of_ble_eq_true rfl⟩ ⟨rfl, rfl⟩ ⟨Nat.zero_le _, Nat.zero_le _⟩ (RP.preS hK (fun k q h => by simp at h)) rfl hl.1 rfl (Nat.le_of_ble_eq_true rfl) dX3_about_16 ?_
    refine bv_if_eq (tgt := 31) hx hb dX3_about_19 (by decide) (fun c_19 => ?_) (fun c_19 => ?_)
    · skip
      refine lv_bipush (v := (-102)) hx hb dX3_about_31 (by decide) ?_
      exact rr_i hx hb hr hlocks dX3_about_33 ((abt_2 qj hn6 c_19).symm)
    · skip
      obtain ⟨k, qk, ek⟩ := x_in_of (k := 5) c_19 (by omega)
      subst ek
      refine lv_aload_n hx hb dX3_about_22 rfl (lv_at hl 0 rfl) ?_
      refine lv_iload_n hx hb dX3_about_23 rfl (lv_at hl 1 rfl) ?_
      refine lv_iload_n hx hb dX3_about_24 rfl (lv_at hl 2 rfl) ?_
      refine rdV (As := [.int (nI j), .int (nI k)]) (rest := []) hx hb hml hown hg (c_X3_houseNow l D cI cB aS _ st n td nd nh pl bs kd ag bo pa dm dn hh hn pg sv sd ik ks ktd knd knh kbs kag kbo kpa kdm kdn khh khn hf j k (by first | assumption | omega) (by first | assumption | omega) (by first | assumption | omega) (by first | assumption | omega) (by first | assumption | omega)) gm_500 vf_X3_houseNow ⟨Nat.le_of_ble_eq_true rfl, Nat.le_of_ble_eq_true rfl⟩ ⟨rfl, rfl⟩ ⟨Nat.zero_le _, Nat.zero_le _⟩ (RP.preV hK hP (q0 := 0) (ci := 3) rfl rfl) rfl hl.1 rfl (Nat.le_of_ble_eq_true rfl) dX3_about_25 ?_
      refine lv_goto (tgt := 33) hx hb dX3_about_28 (by decide) ?_
      exact rr_i hx hb hr hlocks dX3_about_33 ((abt_ok qj hn6 qk).symm)
  · skip
    refine lv_bipush (v := (-101)) hx hb dX3_about_8 (by decide) ?_
    refine lv_goto (tgt := 33) hx hb dX3_about_10 (by decide) ?_
    exact rr_i hx hb hr hlocks dX3_about_33 ((abt_1 c_5).symm)
abbrev rm_X3_as : Room := { frames := 2, cells := 0, slots := 0, locals := 43 }
set_option maxRecDepth 100000 in
set_option maxHeartbeats 4000000 in
theorem c_X3_as (l : Launch) (D : va_G) (cI cB : ClassId) (aS : Nat) (b : Nat → Nat) (st n td nd nh pl : Nat) (bs : Int32) (kd ag bo pa dm dn hh hn pg sv : Nat → Int32) (sd : Int64) (ik : Int32) (ks ktd knd knh : Nat) (kbs : Int32) (kag kbo kpa kdm kdn khh khn : Nat → Int32) (hf : Int64) (x k : Int32) (hn6 : n ≤ 6) : Met l yX3_as (mw yX3_as cX3_as 4 (some .int)) rm_X3_as (RP D cI cB aS (MW cI cB b st n td nd nh pl bs kd ag bo pa dm dn hh hn pg sv sd ik ks ktd knd knh kbs kag kbo kpa kdm kdn khh khn hf) [.ref (b 0), .int x, .int k]) (vp_Si (fun r => r = (asF n kd x k))) 0 0 (fun _ => False) := by
  refine met_of (by decide) (Nat.le_of_ble_eq_true rfl) ?_
  intro p e s m below meth c ls hx hb hr hml hown hg hlocks hin hK hP hl
  have hown : s.vm.findClass RX3 = some m.cls := hown
  have hl : lv_has ls 4 [(0, .ref (b 0)), (1, .int x), (2, .int k)] := hl
  refine lv_aload_n hx hb dX3_as_0 rfl (lv_at hl 0 rfl) ?_
  refine lv_iload_n hx hb dX3_as_1 rfl (lv_at hl 1 rfl) ?_
  refine rdV (As := [.int x]) (rest := []) hx hb hml hown hg (c_X3_isHouse l D cI cB aS _ st n td nd nh pl bs kd ag bo pa dm dn hh hn pg sv sd ik ks ktd knd knh kbs kag kbo kpa kdm kdn khh khn hf x (by first | assumption | omega)) gm_497 vf_X3_isHouse ⟨Nat.le_of_ble_eq_true rfl, Nat.le_of_ble_eq_true rfl⟩ ⟨rfl, rfl⟩ ⟨Nat.zero_le _, Nat.zero_le _⟩ (RP.preV hK hP (q0 := 0) (ci := 3) rfl rfl) rfl hl.1 rfl (Nat.le_of_ble_eq_true rfl) dX3_as_2 ?_
  refine bv_if_ne (tgt := 11) hx hb dX3_as_5 (by decide) (fun c_5 => ?_) (fun c_5 => ?_)
  · skip
    obtain ⟨j, qj, ex⟩ := hIn_of c_5 (by omega)
    subst ex
    refine lv_iload_n hx hb dX3_as_11 rfl (lv_at hl 2 rfl) ?_
    refine lv_iconst (v := (nI 0)) hx hb dX3_as_12 (by decide) ?_
    refine lv_iconst (v := (nI 4)) hx hb dX3_as_13 (by decide) ?_
    refine rdS (As := [.int k, .int (nI 0), .int (nI 4)]) (rest := []) hx hb hml hown hg (c_X3_within l D cI cB aS k (nI 0) (nI 4)) gm_469 sf_X3_within ⟨Nat.le_of_ble_eq_true rfl, Nat.le_of_ble_eq_true rfl⟩ ⟨rfl, rfl⟩ ⟨Nat.zero_le _, Nat.zero_le _⟩ (RP.preS hK (fun k q h => by simp at h)) rfl hl.1 rfl (Nat.le_of_ble_eq_true rfl) dX3_as_14 ?_
    refine bv_if_ne (tgt := 23) hx hb dX3_as_17 (by decide) (fun c_17 => ?_) (fun c_17 => ?_)
    · skip
      refine lv_aload_n hx hb dX3_as_23 rfl (lv_at hl 0 rfl) ?_
      refine va_get (D := D) (ci := 3) (v := .ref (b 1)) (C := RX3) (T := TX3) (N := 32) hx hb hg us_X3 hown hK.1 hP 0 rfl rfl 2 (by decide) (hg _ gm_403) (fun _ h9 => h9) rfl dX3_as_24 ?_
      refine lv_iload_n hx hb dX3_as_27 rfl (lv_at hl 1 rfl) ?_
      refine nv_iald hx hb hK.1 hP 1 0 rfl rfl (by omega) (by decide) dX3_as_28 ?_
      refine lv_istore_n (lv' := [(3, .int (kd j)), (0, .ref (b 0)), (1, .int (nI j)), (2, .int k)]) hx hb dX3_as_29 rfl hl (by decide) rfl (fun ls hl => ?_)
      refine lv_iload_n hx hb dX3_as_30 rfl (lv_at hl 3 rfl) ?_
      refine lv_if_eq (tgt := 49) hx hb dX3_as_31 (by decide) (fun (c_31 : k = nI 0) => ?_) (fun (c_31 : ¬ k = nI 0) => ?_)
      · skip
        refine lv_iload_n hx hb dX3_as_49 rfl (lv_at hl 2 rfl) ?_
        refine lv_goto (tgt := 54) hx hb dX3_as_50 (by decide) ?_
        exact rr_i hx hb hr hlocks dX3_as_54 (by rw [as_ok qj hn6 c_17, if_pos (Or.inl c_31)])
      · skip
        refine lv_iload_n hx hb dX3_as_34 rfl (lv_at hl 0 rfl) ?_
        refine lv_iload_n hx hb dX3_as_35 rfl (lv_at hl 3 rfl) ?_
        refine lv_icmp_eq (tgt := 49) hx hb dX3_as_36 (by decide) (fun c_36 => ?_) (fun c_36 => ?_)
        · skip
          refine lv_iload_n hx hb dX3_as_49 rfl (lv_at hl 2 rfl) ?_
          refine lv_goto (tgt := 54) hx hb dX3_as_50 (by decide) ?_
          exact rr_i hx hb hr hlocks dX3_as_54 (by rw [as_ok qj hn6 c_17, if_pos (Or.inr (Or.inl c_36))])
        · skip
          refine lv_iload_n hx hb dX3_as_39 rfl (lv_at hl 3 rfl) ?_
          refine lv_iconst (v := (nI 2)) hx hb dX3_as_40 (by decide) ?_
          refine lv_icmp_ne (tgt := 53) hx hb dX3_as_41 (by decide) (fun c_41 => ?_) (fun c_41 => ?_)
          · skip
            refine lv_iconst (v := (-1)) hx hb dX3_as_53 (by decide) ?_
            exact rr_i hx hb hr hlocks dX3_as_54 (by rw [as_ok qj hn6 c_17, if_neg (fun q => q.elim c_31 (fun q => q.elim c_36 (fun q => c_41 q.1)))])
          · skip
            refine lv_iload_n hx hb dX3_as_44 rfl (lv_at hl 0 rfl) ?_
            refine lv_iconst (v := (nI 4)) hx hb dX3_as_45 (by decide) ?_
            refine lv_icmp_ne (tgt := 53) hx hb dX3_as_46 (by decide) (fun c_46 => ?_) (fun c_46 => ?_)
            · skip
              refine lv_iconst (v := (-1)) hx hb dX3_as_53 (by decide) ?_
              exact rr_i hx hb hr hlocks dX3_as_54 (by rw [as_ok qj hn6 c_17, if_neg (fun q => q.elim c_31 (fun q => q.elim c_36 (fun q => c_46 q.2)))])
            · skip
              refine lv_iload_n hx hb dX3_as_49 rfl (lv_at hl 2 rfl) ?_
              refine lv_goto (tgt := 54) hx hb dX3_as_50 (by decide) ?_
              exact rr_i hx hb hr hlocks dX3_as_54 (by rw [as_ok qj hn6 c_17, if_pos (Or.inr (Or.inr ⟨c_41, c_46⟩))])
    · skip
      refine lv_bipush (v := (-102)) hx hb dX3_as_20 (by decide) ?_
      exact rr_i hx hb hr hlocks dX3_as_22 ((as_2 qj hn6 c_17).symm)
  · skip
    refine lv_bipush (v := (-101)) hx hb dX3_as_8 (by decide) ?_
    exact rr_i hx hb hr hlocks dX3_as_10 ((as_1 c_5).symm)
abbrev rm_X3_then : Room := { frames := 2, cells := 0, slots := 0, locals := 44 }
theorem vf_X3_isDay : vfacts RX3 yX3_isDay cX3_isDay 2 (some .boolean) 1 := ⟨⟨rfl, by decide +kernel, by decide +kernel, by decide +kernel⟩, gm_550, gm_721, gm_5, gm_551⟩
set_option maxRecDepth 100000 in
set_option maxHeartbeats 4000000 in
theorem c_X3_then (l : Launch) (D : va_G) (cI cB : ClassId) (aS : Nat) (b : Nat → Nat) (st n td nd nh pl : Nat) (bs : Int32) (kd ag bo pa dm dn hh hn pg sv : Nat → Int32) (sd : Int64) (ik : Int32) (ks ktd knd knh : Nat) (kbs : Int32) (kag kbo kpa kdm kdn khh khn : Nat → Int32) (hf : Int64) (x d : Int32) (hn6 : n ≤ 6) (qt : td ≤ 30) : Met l yX3_then (mw yX3_then cX3_then 3 (some .int)) rm_X3_then (RP D cI cB aS (MW cI cB b st n td nd nh pl bs kd ag bo pa dm dn hh hn pg sv sd ik ks ktd knd knh kbs kag kbo kpa kdm kdn khh khn hf) [.ref (b 0), .int x, .int d]) (vp_Si (fun r => r = (thF n td kd ag pa x d))) 0 0 (fun _ => False) := by
  refine met_of (by decide) (Nat.le_of_ble_eq_true rfl) ?_
  intro p e s m below meth c ls hx hb hr hml hown hg hlocks hin hK hP hl
  have hown : s.vm.findClass RX3 = some m.cls := hown
  have hl : lv_has ls 3 [(0, .ref (b 0)), (1, .int x), (2, .int d)] := hl
  refine lv_aload_n hx hb dX3_then_0 rfl (lv_at hl 0 rfl) ?_
  refine lv_iload_n hx hb dX3_then_1 rfl (lv_at hl 1 rfl) ?_
  refine rdV (As := [.int x]) (rest := []) hx hb hml hown hg (c_X3_isHouse l D cI cB aS _ st n td nd nh pl bs kd ag bo pa dm dn hh hn pg sv sd ik ks ktd knd knh kbs kag kbo kpa kdm kdn khh khn hf x (by first | assumption | omega)) gm_497 vf_X3_isHouse ⟨Nat.le_of_ble_eq_true rfl, Nat.le_of_ble_eq_true rfl⟩ ⟨rfl, rfl⟩ ⟨Nat.zero_le _, Nat.zero_le _⟩ (RP.preV hK hP (q0 := 0) (ci := 3) rfl rfl) rfl hl.1 rfl (Nat.le_of_ble_eq_true rfl) dX3_then_2 ?_
  refine bv_if_eq (tgt := 25) hx hb dX3_then_5 (by decide) (fun c_5 => ?_) (fun c_5 => ?_)
  · skip
    refine lv_bipush (v := (-101)) hx hb dX3_then_25 (by decide) ?_
    exact rr_i hx hb hr hlocks dX3_then_27 ((if_neg (fun q => c_5 q.1)).symm)
  · skip
    obtain ⟨j, qj, ex⟩ := hIn_of c_5 (by omega)
    subst ex
    refine lv_aload_n hx hb dX3_then_8 rfl (lv_at hl 0 rfl) ?_
    refine lv_iload_n hx hb dX3_then_9 rfl (lv_at hl 2 rfl) ?_
    refine rdV (As := [.int d]) (rest := []) hx hb hml hown hg (c_X3_isDay l D cI cB aS _ st n td nd nh pl bs kd ag bo pa dm dn hh hn pg sv sd ik ks ktd knd knh kbs kag kbo kpa kdm kdn khh khn hf d (by first | assumption | omega)) gm_549 vf_X3_isDay ⟨Nat.le_of_ble_eq_true rfl, Nat.le_of_ble_eq_true rfl⟩ ⟨rfl, rfl⟩ ⟨Nat.zero_le _, Nat.zero_le _⟩ (RP.preV hK hP (q0 := 0) (ci := 3) rfl rfl) rfl hl.1 rfl (Nat.le_of_ble_eq_true rfl) dX3_then_10 ?_
    refine bv_if_eq (tgt := 25) hx hb dX3_then_13 (by decide) (fun c_13 => ?_) (fun c_13 => ?_)
    · skip
      refine lv_bipush (v := (-101)) hx hb dX3_then_25 (by decide) ?_
      exact rr_i hx hb hr hlocks dX3_then_27 ((if_neg (fun q => c_13 q.2)).symm)
    · skip
      obtain ⟨k, qk, ek⟩ := x_in_of ⟨(c_13).2.1, (c_13).2.2⟩ (by omega)
      subst ek
      refine lv_aload_n hx hb dX3_then_16 rfl (lv_at hl 0 rfl) ?_
      refine lv_iload_n hx hb dX3_then_17 rfl (lv_at hl 1 rfl) ?_
      refine lv_iload_n hx hb dX3_then_18 rfl (lv_at hl 2 rfl) ?_
      refine rdV (As := [.int (nI j), .int (nI k)]) (rest := []) hx hb hml hown hg (c_X3_numberOn l D cI cB aS _ st n td nd nh pl bs kd ag bo pa dm dn hh hn pg sv sd ik ks ktd knd knh kbs kag kbo kpa kdm kdn khh khn hf j k (by first | assumption | omega) (by first | assumption | omega) (by first | assumption | omega)) gm_515 vf_X3_numberOn ⟨Nat.le_of_ble_eq_true rfl, Nat.le_of_ble_eq_true rfl⟩ ⟨rfl, rfl⟩ ⟨Nat.zero_le _, Nat.zero_le _⟩ (RP.preV hK hP (q0 := 0) (ci := 3) rfl rfl) rfl hl.1 rfl (Nat.le_of_ble_eq_true rfl) dX3_then_19 ?_
      refine lv_goto (tgt := 27) hx hb dX3_then_22 (by decide) ?_
      exact rr_i hx hb hr hlocks dX3_then_27 ((th_ok qj hn6 qk qt).symm)
abbrev rm_X3_goesTo : Room := { frames := 3, cells := 0, slots := 0, locals := 68 }
set_option maxRecDepth 100000 in
set_option maxHeartbeats 4000000 in
theorem c_X3_goesTo (l : Launch) (D : va_G) (cI cB : ClassId) (aS : Nat) (b : Nat → Nat) (st n td nd nh pl : Nat) (bs : Int32) (kd ag bo pa dm dn hh hn pg sv : Nat → Int32) (sd : Int64) (ik : Int32) (ks ktd knd knh : Nat) (kbs : Int32) (kag kbo kpa kdm kdn khh khn : Nat → Int32) (hf : Int64) (x d : Int32) (hn6 : n ≤ 6) (qt : td ≤ 30) : Met l yX3_goesTo (mw yX3_goesTo cX3_goesTo 3 (some .int)) rm_X3_goesTo (RP D cI cB aS (MW cI cB b st n td nd nh pl bs kd ag bo pa dm dn hh hn pg sv sd ik ks ktd knd knh kbs kag kbo kpa kdm kdn khh khn hf) [.ref (b 0), .int x, .int d]) (vp_Si (fun r => r = (goF n td kd ag pa x d))) 0 0 (fun _ => False) := by
  refine met_of (by decide) (Nat.le_of_ble_eq_true rfl) ?_
  intro p e s m below meth c ls hx hb hr hml hown hg hlocks hin hK hP hl
  have hown : s.vm.findClass RX3 = some m.cls := hown
  have hl : lv_has ls 3 [(0, .ref (b 0)), (1, .int x), (2, .int d)] := hl
  refine lv_aload_n hx hb dX3_goesTo_0 rfl (lv_at hl 0 rfl) ?_
  refine lv_iload_n hx hb dX3_goesTo_1 rfl (lv_at hl 2 rfl) ?_
  refine rdV (As := [.int d]) (rest := []) hx hb hml hown hg (c_X3_isDay l D cI cB aS _ st n td nd nh pl bs kd ag bo pa dm dn hh hn pg sv sd ik ks ktd knd knh kbs kag kbo kpa kdm kdn khh khn hf d (by first | assumption | omega)) gm_549 vf_X3_isDay ⟨Nat.le_of_ble_eq_true rfl, Nat.le_of_ble_eq_true rfl⟩ ⟨rfl, rfl⟩ ⟨Nat.zero_le _, Nat.zero_le _⟩ (RP.preV hK hP (q0 := 0) (ci := 3) rfl rfl) rfl hl.1 rfl (Nat.le_of_ble_eq_true rfl) dX3_goesTo_2 ?_
  refine bv_if_eq (tgt := 17) hx hb dX3_goesTo_5 (by decide) (fun c_5 => ?_) (fun c_5 => ?_)
  · skip
    refine lv_bipush (v := (-101)) hx hb dX3_goesTo_17 (by decide) ?_
    exact rr_i hx hb hr hlocks dX3_goesTo_19 ((if_neg c_5).symm)
  · skip
    obtain ⟨k, qk, ek⟩ := x_in_of ⟨(c_5).2.1, (c_5).2.2⟩ (by omega)
    subst ek
    refine lv_aload_n hx hb dX3_goesTo_8 rfl (lv_at hl 0 rfl) ?_
    refine lv_iload_n hx hb dX3_goesTo_9 rfl (lv_at hl 1 rfl) ?_
    refine lv_iload_n hx hb dX3_goesTo_10 rfl (lv_at hl 2 rfl) ?_
    refine rdV (As := [.int x, .int (nI k)]) (rest := []) hx hb hml hown hg (c_X3_houseOf l D cI cB aS _ st n td nd nh pl bs kd ag bo pa dm dn hh hn pg sv sd ik ks ktd knd knh kbs kag kbo kpa kdm kdn khh khn hf x k (by first | assumption | omega) (by first | assumption | omega) (by first | assumption | omega)) gm_512 vf_X3_houseOf ⟨Nat.le_of_ble_eq_true rfl, Nat.le_of_ble_eq_true rfl⟩ ⟨rfl, rfl⟩ ⟨Nat.zero_le _, Nat.zero_le _⟩ (RP.preV hK hP (q0 := 0) (ci := 3) rfl rfl) rfl hl.1 rfl (Nat.le_of_ble_eq_true rfl) dX3_goesTo_11 ?_
    refine lv_goto (tgt := 19) hx hb dX3_goesTo_14 (by decide) ?_
    exact rr_i hx hb hr hlocks dX3_goesTo_19 ((go_ok c_5.1 qk qt).symm)
abbrev rm_X3_walk : Room := { frames := 4, cells := 0, slots := 0, locals := 90 }
theorem vf_X3_walkNow : vfacts RX3 yX3_walkNow cX3_walkNow 5 (some .int) 0 := ⟨⟨rfl, by decide +kernel, by decide +kernel, by decide +kernel⟩, gm_561, gm_722, gm_5, gm_562⟩
set_option maxRecDepth 100000 in
set_option maxHeartbeats 4000000 in
theorem c_X3_walk (l : Launch) (D : va_G) (cI cB : ClassId) (aS : Nat) (b : Nat → Nat) (st n td nd nh pl : Nat) (bs : Int32) (kd ag bo pa dm dn hh hn pg sv : Nat → Int32) (sd : Int64) (ik : Int32) (ks ktd knd knh : Nat) (kbs : Int32) (kag kbo kpa kdm kdn khh khn : Nat → Int32) (hf : Int64)  (hn6 : n ≤ 6) : Met l yX3_walk (mw yX3_walk cX3_walk 1 (some .int)) rm_X3_walk (RP D cI cB aS (MW cI cB b st n td nd nh pl bs kd ag bo pa dm dn hh hn pg sv sd ik ks ktd knd knh kbs kag kbo kpa kdm kdn khh khn hf) [.ref (b 0)]) (vp_Si (fun r => r = (if n = 0 then -103 else nI (wkF n (nmF kd ag) n)))) 0 0 (fun _ => False) := by
  refine met_of (by decide) (Nat.le_of_ble_eq_true rfl) ?_
  intro p e s m below meth c ls hx hb hr hml hown hg hlocks hin hK hP hl
  have hown : s.vm.findClass RX3 = some m.cls := hown
  have hl : lv_has ls 1 [(0, .ref (b 0))] := hl
  refine lv_aload_n hx hb dX3_walk_0 rfl (lv_at hl 0 rfl) ?_
  refine va_get (D := D) (ci := 3) (v := .int (nI n)) (C := RX3) (T := TX3) (N := 32) hx hb hg us_X3 hown hK.1 hP 0 rfl rfl 1 (by decide) (hg _ gm_402) (fun _ h9 => h9) rfl dX3_walk_1 ?_
  refine nv_if_ne (tgt := 12) hx hb dX3_walk_4 (by omega) (by decide) (fun c_4 => ?_) (fun c_4 => ?_)
  · skip
    refine lv_aload_n hx hb dX3_walk_12 rfl (lv_at hl 0 rfl) ?_
    refine rdV (As := []) (rest := []) hx hb hml hown hg (c_X3_walkNow l D cI cB aS _ st n td nd nh pl bs kd ag bo pa dm dn hh hn pg sv sd ik ks ktd knd knh kbs kag kbo kpa kdm kdn khh khn hf (by first | assumption | omega)) gm_560 vf_X3_walkNow ⟨Nat.le_of_ble_eq_true rfl, Nat.le_of_ble_eq_true rfl⟩ ⟨rfl, rfl⟩ ⟨Nat.zero_le _, Nat.zero_le _⟩ (RP.preV hK hP (q0 := 0) (ci := 3) rfl rfl) rfl hl.1 rfl (Nat.le_of_ble_eq_true rfl) dX3_walk_13 ?_
    exact rr_i hx hb hr hlocks dX3_walk_16 ((if_neg c_4).symm)
  · skip
    refine lv_bipush (v := (-103)) hx hb dX3_walk_7 (by decide) ?_
    refine lv_goto (tgt := 16) hx hb dX3_walk_9 (by decide) ?_
    exact rr_i hx hb hr hlocks dX3_walk_16 ((if_pos c_4).symm)
abbrev rm_X3_numbersAll : Room := { frames := 2, cells := 0, slots := 0, locals := 43 }
set_option maxRecDepth 100000 in
set_option maxHeartbeats 4000000 in
theorem c_X3_numbersAll (l : Launch) (D : va_G) (cI cB : ClassId) (aS : Nat) (b : Nat → Nat) (st n td nd nh pl : Nat) (bs : Int32) (kd ag bo pa dm dn hh hn pg sv : Nat → Int32) (sd : Int64) (ik : Int32) (ks ktd knd knh : Nat) (kbs : Int32) (kag kbo kpa kdm kdn khh khn : Nat → Int32) (hf : Int64)  (hn6 : n ≤ 6) : Met l yX3_numbersAll (mw yX3_numbersAll cX3_numbersAll 3 (some .int)) rm_X3_numbersAll (RP D cI cB aS (MW cI cB b st n td nd nh pl bs kd ag bo pa dm dn hh hn pg sv sd ik ks ktd knd knh kbs kag kbo kpa kdm kdn khh khn hf) [.ref (b 0)]) (vp_Si (fun r => r = (sm (nmF kd ag) n))) 0 0 (fun _ => False) := by
  refine met_of (by decide) (Nat.le_of_ble_eq_true rfl) ?_
  intro p e s m below meth c ls hx hb hr hml hown hg hlocks hin hK hP hl
  have hown : s.vm.findClass RX3 = some m.cls := hown
  have hl : lv_has ls 3 [(0, .ref (b 0))] := hl
  refine lv_iconst (v := (nI 0)) hx hb dX3_numbersAll_0 (by decide) ?_
  refine lv_istore_n (lv' := [(1, .int (nI 0)), (0, .ref (b 0))]) hx hb dX3_numbersAll_1 rfl hl (by decide) rfl (fun ls hl => ?_)
  refine lv_iconst (v := (nI 0)) hx hb dX3_numbersAll_2 (by decide) ?_
  refine lv_istore_n (lv' := [(2, .int (nI 0)), (1, .int (nI 0)), (0, .ref (b 0))]) hx hb dX3_numbersAll_3 rfl hl (by decide) rfl (fun ls hl => ?_)
  -- loop at 4
  refine loopR (nL := 3) (B := n) (I := fun i => True) (lv := fun i => [(0, .ref (b 0)), (1, .int (sm (nmF kd ag) i)), (2, .int (nI i))]) 0 (Nat.zero_le _) (trivial) (by show lv_has ls 3 [(0, .ref (b 0)), (1, .int (sm (nmF kd ag) 0)), (2, .int (nI 0))]; exact lv_sub hl [2, 1, 0] rfl) (fun i ls hj hI hl ih => ?_)
  have hl : lv_has ls 3 [(0, .ref (b 0)), (1, .int (sm (nmF kd ag) i)), (2, .int (nI i))] := hl
  have ih_4 := ih
  refine lv_iload_n hx hb dX3_numbersAll_4 rfl (lv_at hl 2 rfl) ?_
  refine lv_aload_n hx hb dX3_numbersAll_5 rfl (lv_at hl 0 rfl) ?_
  refine va_get (D := D) (ci := 3) (v := .int (nI n)) (C := RX3) (T := TX3) (N := 32) hx hb hg us_X3 hown hK.1 hP 0 rfl rfl 1 (by decide) (hg _ gm_402) (fun _ h9 => h9) rfl dX3_numbersAll_6 ?_
  refine nv_icmp_ge (tgt := 26) hx hb dX3_numbersAll_9 (by omega) (by omega) (by decide) (fun c_9 => ?_) (fun c_9 => ?_)
  · skip
    refine lv_iload_n hx hb dX3_numbersAll_26 rfl (lv_at hl 1 rfl) ?_
    exact rr_i hx hb hr hlocks dX3_numbersAll_27 (by rw [show i = n by omega])
  · skip
    refine lv_iload_n hx hb dX3_numbersAll_12 rfl (lv_at hl 1 rfl) ?_
    refine lv_aload_n hx hb dX3_numbersAll_13 rfl (lv_at hl 0 rfl) ?_
    refine lv_iload_n hx hb dX3_numbersAll_14 rfl (lv_at hl 2 rfl) ?_
    refine rdV (As := [.int (nI i)]) (rest := [.int (sm (nmF kd ag) i)]) hx hb hml hown hg (c_X3_number l D cI cB aS _ st n td nd nh pl bs kd ag bo pa dm dn hh hn pg sv sd ik ks ktd knd knh kbs kag kbo kpa kdm kdn khh khn hf i (by first | assumption | omega)) gm_503 vf_X3_number ⟨Nat.le_of_ble_eq_true rfl, Nat.le_of_ble_eq_true rfl⟩ ⟨rfl, rfl⟩ ⟨Nat.zero_le _, Nat.zero_le _⟩ (RP.preV hK hP (q0 := 0) (ci := 3) rfl rfl) rfl hl.1 rfl (Nat.le_of_ble_eq_true rfl) dX3_numbersAll_15 ?_
    refine lv_iadd hx hb dX3_numbersAll_18 ?_
    refine lv_istore_n (lv' := [(1, .int ((sm (nmF kd ag) i) + (nmF kd ag i))), (0, .ref (b 0)), (2, .int (nI i))]) hx hb dX3_numbersAll_19 rfl hl (by decide) rfl (fun ls hl => ?_)
    refine lv_iinc (v := (nI (i + 1))) (lv' := [(2, .int (nI (i + 1))), (1, .int ((sm (nmF kd ag) i) + (nmF kd ag i))), (0, .ref (b 0))]) hx hb dX3_numbersAll_20 hl (k := 2) rfl (nI_i1 _) (by decide) rfl (fun ls hl => ?_)
    refine lv_goto (tgt := 4) hx hb dX3_numbersAll_23 (by decide) ?_
    exact ih_4 _ (by omega) (trivial) (by show lv_has ls 3 [(0, .ref (b 0)), (1, .int (sm (nmF kd ag) (i + 1))), (2, .int (nI (i + 1)))]; rw [show (sm (nmF kd ag) (i + 1)) = (sm (nmF kd ag) i) + (nmF kd ag i) from rfl]; exact lv_sub hl [2, 1, 0] rfl)
abbrev rm_X3_whenNow : Room := { frames := 1, cells := 0, slots := 0, locals := 22 }
set_option maxRecDepth 100000 in
set_option maxHeartbeats 4000000 in
theorem c_X3_whenNow (l : Launch) (D : va_G) (cI cB : ClassId) (aS : Nat) (b : Nat → Nat) (st n td nd nh pl : Nat) (bs : Int32) (kd ag bo pa dm dn hh hn pg sv : Nat → Int32) (sd : Int64) (ik : Int32) (ks ktd knd knh : Nat) (kbs : Int32) (kag kbo kpa kdm kdn khh khn : Nat → Int32) (hf : Int64) (j : Nat) (x : Int32) (qj : j < 6) : Met l yX3_whenNow (mw yX3_whenNow cX3_whenNow 4 (some .int)) rm_X3_whenNow (RP D cI cB aS (MW cI cB b st n td nd nh pl bs kd ag bo pa dm dn hh hn pg sv sd ik ks ktd knd knh kbs kag kbo kpa kdm kdn khh khn hf) [.ref (b 0), .int (nI j), .int x]) (vp_Si (fun r => r = (whF (kd j) (ag j) x))) 0 0 (fun _ => False) := by
  refine met_of (by decide) (Nat.le_of_ble_eq_true rfl) ?_
  intro p e s m below meth c ls hx hb hr hml hown hg hlocks hin hK hP hl
  have hown : s.vm.findClass RX3 = some m.cls := hown
  have hl : lv_has ls 4 [(0, .ref (b 0)), (1, .int (nI j)), (2, .int x)] := hl
  refine lv_iconst (v := (nI 0)) hx hb dX3_whenNow_0 (by decide) ?_
  refine lv_istore_n (lv' := [(3, .int (nI 0)), (0, .ref (b 0)), (1, .int (nI j)), (2, .int x)]) hx hb dX3_whenNow_1 rfl hl (by decide) rfl (fun ls hl => ?_)
  -- loop at 2
  refine loopR (nL := 4) (B := 100) (I := fun i => ∀ k, k < i → decide (numF (kd j) (agF (kd j) (ag j) k) = x) = false) (lv := fun i => [(0, .ref (b 0)), (1, .int (nI j)), (2, .int x), (3, .int (nI i))]) 0 (Nat.zero_le _) (fun k h => by omega) (lv_sub hl [1, 2, 3, 0] rfl) (fun i ls hj hI hl ih => ?_)
  have hl : lv_has ls 4 [(0, .ref (b 0)), (1, .int (nI j)), (2, .int x), (3, .int (nI i))] := hl
  have hI : ∀ k, k < i → decide (numF (kd j) (agF (kd j) (ag j) k) = x) = false := hI
  have ih_2 := ih
  refine lv_iload_n hx hb dX3_whenNow_2 rfl (lv_at hl 3 rfl) ?_
  refine lv_bipush (v := (nI 99)) hx hb dX3_whenNow_3 (by decide) ?_
  refine nv_icmp_gt (tgt := 52) hx hb dX3_whenNow_5 (by omega) (by omega) (by decide) (fun c_5 => ?_) (fun c_5 => ?_)
  · skip
    refine lv_iconst (v := (-1)) hx hb dX3_whenNow_52 (by decide) ?_
    exact rr_i hx hb hr hlocks dX3_whenNow_53 ((ff_no (fun k h => hI k (by omega))).symm)
  · skip
    refine lv_aload_n hx hb dX3_whenNow_8 rfl (lv_at hl 0 rfl) ?_
    refine lv_iload_n hx hb dX3_whenNow_9 rfl (lv_at hl 1 rfl) ?_
    refine lv_aload_n hx hb dX3_whenNow_10 rfl (lv_at hl 0 rfl) ?_
    refine va_get (D := D) (ci := 3) (v := .ref (b 1)) (C := RX3) (T := TX3) (N := 32) hx hb hg us_X3 hown hK.1 hP 0 rfl rfl 2 (by decide) (hg _ gm_403) (fun _ h9 => h9) rfl dX3_whenNow_11 ?_
    refine lv_iload_n hx hb dX3_whenNow_14 rfl (lv_at hl 1 rfl) ?_
    refine nv_iald hx hb hK.1 hP 1 0 rfl rfl (by omega) (by decide) dX3_whenNow_15 ?_
    refine lv_iconst (v := (nI 4)) hx hb dX3_whenNow_16 (by decide) ?_
    refine lv_icmp_ne (tgt := 29) hx hb dX3_whenNow_17 (by decide) (fun c_17 => ?_) (fun c_17 => ?_)
    · skip
      refine lv_aload_n hx hb dX3_whenNow_29 rfl (lv_at hl 0 rfl) ?_
      refine va_get (D := D) (ci := 3) (v := .ref (b 2)) (C := RX3) (T := TX3) (N := 32) hx hb hg us_X3 hown hK.1 hP 0 rfl rfl 3 (by decide) (hg _ gm_404) (fun _ h9 => h9) rfl dX3_whenNow_30 ?_
      refine lv_iload_n hx hb dX3_whenNow_33 rfl (lv_at hl 1 rfl) ?_
      refine nv_iald hx hb hK.1 hP 2 0 rfl rfl (by omega) (by decide) dX3_whenNow_34 ?_
      refine lv_iload_n hx hb dX3_whenNow_35 rfl (lv_at hl 3 rfl) ?_
      refine lv_iadd hx hb dX3_whenNow_36 ?_
      refine rdV (As := [.int (nI j), .int ((ag j) + (nI i))]) (rest := []) hx hb hml hown hg (c_X3_numberBy l D cI cB aS _ st n td nd nh pl bs kd ag bo pa dm dn hh hn pg sv sd ik ks ktd knd knh kbs kag kbo kpa kdm kdn khh khn hf j ((ag j) + (nI i)) (by first | assumption | omega)) gm_506 vf_X3_numberBy ⟨Nat.le_of_ble_eq_true rfl, Nat.le_of_ble_eq_true rfl⟩ ⟨rfl, rfl⟩ ⟨Nat.zero_le _, Nat.zero_le _⟩ (RP.preV hK hP (q0 := 0) (ci := 3) rfl rfl) rfl hl.1 rfl (Nat.le_of_ble_eq_true rfl) dX3_whenNow_37 ?_
      refine lv_iload_n hx hb dX3_whenNow_40 rfl (lv_at hl 2 rfl) ?_
      refine lv_icmp_ne (tgt := 46) hx hb dX3_whenNow_41 (by decide) (fun c_41 => ?_) (fun c_41 => ?_)
      · skip
        refine lv_iinc (v := (nI (i + 1))) (lv' := [(3, .int (nI (i + 1))), (0, .ref (b 0)), (1, .int (nI j)), (2, .int x)]) hx hb dX3_whenNow_46 hl (k := 3) rfl (nI_i1 _) (by decide) rfl (fun ls hl => ?_)
        refine lv_goto (tgt := 2) hx hb dX3_whenNow_49 (by decide) ?_
        exact ih_2 _ (by omega) (fun k h => by rcases Nat.lt_succ_iff_lt_or_eq.mp h with h | h; exact hI k h; rw [h]; exact decide_eq_false (by unfold agF; rw [if_neg c_17]; exact c_41)) (lv_sub hl [1, 2, 3, 0] rfl)
      · skip
        refine lv_iload_n hx hb dX3_whenNow_44 rfl (lv_at hl 3 rfl) ?_
        exact rr_i hx hb hr hlocks dX3_whenNow_45 ((ff_at (by omega) hI (decide_eq_true (by unfold agF; rw [if_neg c_17]; exact c_41))).symm)
    · skip
      refine lv_aload_n hx hb dX3_whenNow_20 rfl (lv_at hl 0 rfl) ?_
      refine va_get (D := D) (ci := 3) (v := .ref (b 2)) (C := RX3) (T := TX3) (N := 32) hx hb hg us_X3 hown hK.1 hP 0 rfl rfl 3 (by decide) (hg _ gm_404) (fun _ h9 => h9) rfl dX3_whenNow_21 ?_
      refine lv_iload_n hx hb dX3_whenNow_24 rfl (lv_at hl 1 rfl) ?_
      refine nv_iald hx hb hK.1 hP 2 0 rfl rfl (by omega) (by decide) dX3_whenNow_25 ?_
      refine lv_goto (tgt := 37) hx hb dX3_whenNow_26 (by decide) ?_
      refine rdV (As := [.int (nI j), .int (ag j)]) (rest := []) hx hb hml hown hg (c_X3_numberBy l D cI cB aS _ st n td nd nh pl bs kd ag bo pa dm dn hh hn pg sv sd ik ks ktd knd knh kbs kag kbo kpa kdm kdn khh khn hf j (ag j) (by first | assumption | omega)) gm_506 vf_X3_numberBy ⟨Nat.le_of_ble_eq_true rfl, Nat.le_of_ble_eq_true rfl⟩ ⟨rfl, rfl⟩ ⟨Nat.zero_le _, Nat.zero_le _⟩ (RP.preV hK hP (q0 := 0) (ci := 3) rfl rfl) rfl hl.1 rfl (Nat.le_of_ble_eq_true rfl) dX3_whenNow_37 ?_
      refine lv_iload_n hx hb dX3_whenNow_40 rfl (lv_at hl 2 rfl) ?_
      refine lv_icmp_ne (tgt := 46) hx hb dX3_whenNow_41 (by decide) (fun c_41 => ?_) (fun c_41 => ?_)
      · skip
        refine lv_iinc (v := (nI (i + 1))) (lv' := [(3, .int (nI (i + 1))), (0, .ref (b 0)), (1, .int (nI j)), (2, .int x)]) hx hb dX3_whenNow_46 hl (k := 3) rfl (nI_i1 _) (by decide) rfl (fun ls hl => ?_)
        refine lv_goto (tgt := 2) hx hb dX3_whenNow_49 (by decide) ?_
        exact ih_2 _ (by omega) (fun k h => by rcases Nat.lt_succ_iff_lt_or_eq.mp h with h | h; exact hI k h; rw [h]; exact decide_eq_false (by unfold agF; rw [if_pos c_17]; exact c_41)) (lv_sub hl [1, 2, 3, 0] rfl)
      · skip
        refine lv_iload_n hx hb dX3_whenNow_44 rfl (lv_at hl 3 rfl) ?_
        exact rr_i hx hb hr hlocks dX3_whenNow_45 ((ff_at (by omega) hI (decide_eq_true (by unfold agF; rw [if_pos c_17]; exact c_41))).symm)
abbrev rm_X3_when : Room := { frames := 2, cells := 0, slots := 0, locals := 45 }
theorem vf_X3_whenNow : vfacts RX3 yX3_whenNow cX3_whenNow 4 (some .int) 2 := ⟨⟨rfl, by decide +kernel, by decide +kernel, by decide +kernel⟩, gm_602, gm_728, gm_5, gm_603⟩
set_option maxRecDepth 100000 in
set_option maxHeartbeats 4000000 in
theorem c_X3_when (l : Launch) (D : va_G) (cI cB : ClassId) (aS : Nat) (b : Nat → Nat) (st n td nd nh pl : Nat) (bs : Int32) (kd ag bo pa dm dn hh hn pg sv : Nat → Int32) (sd : Int64) (ik : Int32) (ks ktd knd knh : Nat) (kbs : Int32) (kag kbo kpa kdm kdn khh khn : Nat → Int32) (hf : Int64) (x y : Int32) (hn6 : n ≤ 6) : Met l yX3_when (mw yX3_when cX3_when 3 (some .int)) rm_X3_when (RP D cI cB aS (MW cI cB b st n td nd nh pl bs kd ag bo pa dm dn hh hn pg sv sd ik ks ktd knd knh kbs kag kbo kpa kdm kdn khh khn hf) [.ref (b 0), .int x, .int y]) (vp_Si (fun r => r = (whnF n kd ag x y))) 0 0 (fun _ => False) := by
  refine met_of (by decide) (Nat.le_of_ble_eq_true rfl) ?_
  intro p e s m below meth c ls hx hb hr hml hown hg hlocks hin hK hP hl
  have hown : s.vm.findClass RX3 = some m.cls := hown
  have hl : lv_has ls 3 [(0, .ref (b 0)), (1, .int x), (2, .int y)] := hl
  refine lv_aload_n hx hb dX3_when_0 rfl (lv_at hl 0 rfl) ?_
  refine lv_iload_n hx hb dX3_when_1 rfl (lv_at hl 1 rfl) ?_
  refine rdV (As := [.int x]) (rest := []) hx hb hml hown hg (c_X3_isHouse l D cI cB aS _ st n td nd nh pl bs kd ag bo pa dm dn hh hn pg sv sd ik ks ktd knd knh kbs kag kbo kpa kdm kdn khh khn hf x (by first | assumption | omega)) gm_497 vf_X3_isHouse ⟨Nat.le_of_ble_eq_true rfl, Nat.le_of_ble_eq_true rfl⟩ ⟨rfl, rfl⟩ ⟨Nat.zero_le _, Nat.zero_le _⟩ (RP.preV hK hP (q0 := 0) (ci := 3) rfl rfl) rfl hl.1 rfl (Nat.le_of_ble_eq_true rfl) dX3_when_2 ?_
  refine bv_if_eq (tgt := 17) hx hb dX3_when_5 (by decide) (fun c_5 => ?_) (fun c_5 => ?_)
  · skip
    refine lv_bipush (v := (-101)) hx hb dX3_when_17 (by decide) ?_
    exact rr_i hx hb hr hlocks dX3_when_19 ((if_neg c_5).symm)
  · skip
    obtain ⟨j, qj, ex⟩ := hIn_of c_5 (by omega)
    subst ex
    refine lv_aload_n hx hb dX3_when_8 rfl (lv_at hl 0 rfl) ?_
    refine lv_iload_n hx hb dX3_when_9 rfl (lv_at hl 1 rfl) ?_
    refine lv_iload_n hx hb dX3_when_10 rfl (lv_at hl 2 rfl) ?_
    refine rdV (As := [.int (nI j), .int y]) (rest := []) hx hb hml hown hg (c_X3_whenNow l D cI cB aS _ st n td nd nh pl bs kd ag bo pa dm dn hh hn pg sv sd ik ks ktd knd knh kbs kag kbo kpa kdm kdn khh khn hf j y (by first | assumption | omega)) gm_601 vf_X3_whenNow ⟨Nat.le_of_ble_eq_true rfl, Nat.le_of_ble_eq_true rfl⟩ ⟨rfl, rfl⟩ ⟨Nat.zero_le _, Nat.zero_le _⟩ (RP.preV hK hP (q0 := 0) (ci := 3) rfl rfl) rfl hl.1 rfl (Nat.le_of_ble_eq_true rfl) dX3_when_11 ?_
    refine lv_goto (tgt := 19) hx hb dX3_when_14 (by decide) ?_
    exact rr_i hx hb hr hlocks dX3_when_19 ((whn_ok qj hn6).symm)
abbrev rm_X3_isHeard : Room := { frames := 2, cells := 0, slots := 0, locals := 44 }
set_option maxRecDepth 100000 in
set_option maxHeartbeats 4000000 in
theorem c_X3_isHeard (l : Launch) (D : va_G) (cI cB : ClassId) (aS : Nat) (b : Nat → Nat) (st n td nd nh pl : Nat) (bs : Int32) (kd ag bo pa dm dn hh hn pg sv : Nat → Int32) (sd : Int64) (ik : Int32) (ks ktd knd knh : Nat) (kbs : Int32) (kag kbo kpa kdm kdn khh khn : Nat → Int32) (hf : Int64) (d : Nat) (hn6 : n ≤ 6) (qt : td ≤ 30) (qnh : nh ≤ 6) (qhh : hOK n hh nh) (qd : d ≤ td) : Met l yX3_isHeard (mw yX3_isHeard cX3_isHeard 4 (some .boolean)) rm_X3_isHeard (RP D cI cB aS (MW cI cB b st n td nd nh pl bs kd ag bo pa dm dn hh hn pg sv sd ik ks ktd knd knh kbs kag kbo kpa kdm kdn khh khn hf) [.ref (b 0), .int (nI d)]) (vp_Si (fun r => r = (bi (cbF kd ag pa hh hn td nh d = true)))) 0 0 (fun _ => False) := by
  refine met_of (by decide) (Nat.le_of_ble_eq_true rfl) ?_
  intro p e s m below meth c ls hx hb hr hml hown hg hlocks hin hK hP hl
  have hown : s.vm.findClass RX3 = some m.cls := hown
  have hl : lv_has ls 4 [(0, .ref (b 0)), (1, .int (nI d))] := hl
  refine lv_iconst (v := (nI 1)) hx hb dX3_isHeard_0 (by decide) ?_
  refine lv_istore_n (lv' := [(2, .int (nI 1)), (0, .ref (b 0)), (1, .int (nI d))]) hx hb dX3_isHeard_1 rfl hl (by decide) rfl (fun ls hl => ?_)
  refine lv_iconst (v := (nI 0)) hx hb dX3_isHeard_2 (by decide) ?_
  refine lv_istore_n (lv' := [(3, .int (nI 0)), (2, .int (nI 1)), (0, .ref (b 0)), (1, .int (nI d))]) hx hb dX3_isHeard_3 rfl hl (by decide) rfl (fun ls hl => ?_)
  -- loop at 4
  refine loopR (nL := 4) (B := nh) (I := fun i => True) (lv := fun i => [(0, .ref (b 0)), (1, .int (nI d)), (2, .int (bi (al (cbP kd ag pa hh hn td d) i = true))), (3, .int (nI i))]) 0 (Nat.zero_le _) (trivial) (by show lv_has ls 4 [(0, .ref (b 0)), (1, .int (nI d)), (2, .int (bi (al (cbP kd ag pa hh hn td d) 0 = true))), (3, .int (nI 0))]; exact lv_sub hl [2, 3, 1, 0] rfl) (fun i ls hj hI hl ih => ?_)
  have hl : lv_has ls 4 [(0, .ref (b 0)), (1, .int (nI d)), (2, .int (bi (al (cbP kd ag pa hh hn td d) i = true))), (3, .int (nI i))] := hl
  have ih_4 := ih
  refine lv_iload_n hx hb dX3_isHeard_4 rfl (lv_at hl 3 rfl) ?_
  refine lv_aload_n hx hb dX3_isHeard_5 rfl (lv_at hl 0 rfl) ?_
  refine va_get (D := D) (ci := 3) (v := .int (nI nh)) (C := RX3) (T := TX3) (N := 32) hx hb hg us_X3 hown hK.1 hP 0 rfl rfl 11 (by decide) (hg _ gm_412) (fun _ h9 => h9) rfl dX3_isHeard_6 ?_
  refine nv_icmp_ge (tgt := 48) hx hb dX3_isHeard_9 (by omega) (by omega) (by decide) (fun c_9 => ?_) (fun c_9 => ?_)
  · skip
    refine lv_iload_n hx hb dX3_isHeard_48 rfl (lv_at hl 2 rfl) ?_
    exact rr_z hx hb hr hlocks dX3_isHeard_49 bi_nar (by unfold cbF; rw [show i = nh by omega])
  · skip
    refine lv_iload_n hx hb dX3_isHeard_12 rfl (lv_at hl 2 rfl) ?_
    refine bv_if_eq (tgt := 40) hx hb dX3_isHeard_13 (by decide) (fun c_13 => ?_) (fun c_13 => ?_)
    · skip
      refine lv_iconst (v := (nI 0)) hx hb dX3_isHeard_40 (by decide) ?_
      refine lv_istore_n (lv' := [(2, .int (nI 0)), (0, .ref (b 0)), (1, .int (nI d)), (3, .int (nI i))]) hx hb dX3_isHeard_41 rfl hl (by decide) rfl (fun ls hl => ?_)
      refine lv_iinc (v := (nI (i + 1))) (lv' := [(3, .int (nI (i + 1))), (2, .int (nI 0)), (0, .ref (b 0)), (1, .int (nI d))]) hx hb dX3_isHeard_42 hl (k := 3) rfl (nI_i1 _) (by decide) rfl (fun ls hl => ?_)
      refine lv_goto (tgt := 4) hx hb dX3_isHeard_45 (by decide) ?_
      exact ih_4 _ (by omega) (trivial) (by show lv_has ls 4 [(0, .ref (b 0)), (1, .int (nI d)), (2, .int (bi (al (cbP kd ag pa hh hn td d) (i + 1) = true))), (3, .int (nI (i + 1)))]; rw [show ((bi (al (cbP kd ag pa hh hn td d) (i + 1) = true))) = (nI 0) from bi_f (al_f1 c_13)]; exact lv_sub hl [2, 3, 1, 0] rfl)
    · skip
      refine lv_aload_n hx hb dX3_isHeard_16 rfl (lv_at hl 0 rfl) ?_
      refine lv_aload_n hx hb dX3_isHeard_17 rfl (lv_at hl 0 rfl) ?_
      refine va_get (D := D) (ci := 3) (v := .ref (b 7)) (C := RX3) (T := TX3) (N := 32) hx hb hg us_X3 hown hK.1 hP 0 rfl rfl 12 (by decide) (hg _ gm_413) (fun _ h9 => h9) rfl dX3_isHeard_18 ?_
      refine lv_iload_n hx hb dX3_isHeard_21 rfl (lv_at hl 3 rfl) ?_
      refine nv_iald hx hb hK.1 hP 7 0 rfl rfl (by omega) (by decide) dX3_isHeard_22 ?_
      rw [show ((hh i) : Int32) = (nI ((hh i).toNatClampNeg)) from (qhh i (by omega)).2]
      refine lv_iload_n hx hb dX3_isHeard_23 rfl (lv_at hl 1 rfl) ?_
      refine rdV (As := [.int (nI ((hh i).toNatClampNeg)), .int (nI d)]) (rest := []) hx hb hml hown hg (c_X3_numberOn l D cI cB aS _ st n td nd nh pl bs kd ag bo pa dm dn hh hn pg sv sd ik ks ktd knd knh kbs kag kbo kpa kdm kdn khh khn hf ((hh i).toNatClampNeg) d (by have := (qhh i (by omega)).1; omega) (by first | assumption | omega) (by first | assumption | omega)) gm_515 vf_X3_numberOn ⟨Nat.le_of_ble_eq_true rfl, Nat.le_of_ble_eq_true rfl⟩ ⟨rfl, rfl⟩ ⟨Nat.zero_le _, Nat.zero_le _⟩ (RP.preV hK hP (q0 := 0) (ci := 3) rfl rfl) rfl hl.1 rfl (Nat.le_of_ble_eq_true rfl) dX3_isHeard_24 ?_
      refine lv_aload_n hx hb dX3_isHeard_27 rfl (lv_at hl 0 rfl) ?_
      refine va_get (D := D) (ci := 3) (v := .ref (b 8)) (C := RX3) (T := TX3) (N := 32) hx hb hg us_X3 hown hK.1 hP 0 rfl rfl 13 (by decide) (hg _ gm_414) (fun _ h9 => h9) rfl dX3_isHeard_28 ?_
      refine lv_iload_n hx hb dX3_isHeard_31 rfl (lv_at hl 3 rfl) ?_
      refine nv_iald hx hb hK.1 hP 8 0 rfl rfl (by omega) (by decide) dX3_isHeard_32 ?_
      refine lv_icmp_ne (tgt := 40) hx hb dX3_isHeard_33 (by decide) (fun c_33 => ?_) (fun c_33 => ?_)
      · skip
        refine lv_iconst (v := (nI 0)) hx hb dX3_isHeard_40 (by decide) ?_
        refine lv_istore_n (lv' := [(2, .int (nI 0)), (0, .ref (b 0)), (1, .int (nI d)), (3, .int (nI i))]) hx hb dX3_isHeard_41 rfl hl (by decide) rfl (fun ls hl => ?_)
        refine lv_iinc (v := (nI (i + 1))) (lv' := [(3, .int (nI (i + 1))), (2, .int (nI 0)), (0, .ref (b 0)), (1, .int (nI d))]) hx hb dX3_isHeard_42 hl (k := 3) rfl (nI_i1 _) (by decide) rfl (fun ls hl => ?_)
        refine lv_goto (tgt := 4) hx hb dX3_isHeard_45 (by decide) ?_
        exact ih_4 _ (by omega) (trivial) (by show lv_has ls 4 [(0, .ref (b 0)), (1, .int (nI d)), (2, .int (bi (al (cbP kd ag pa hh hn td d) (i + 1) = true))), (3, .int (nI (i + 1)))]; rw [show ((bi (al (cbP kd ag pa hh hn td d) (i + 1) = true))) = (nI 0) from bi_f (al_f2 (fun q => c_33 (of_decide_eq_true q)))]; exact lv_sub hl [2, 3, 1, 0] rfl)
      · skip
        refine lv_iconst (v := (nI 1)) hx hb dX3_isHeard_36 (by decide) ?_
        refine lv_goto (tgt := 41) hx hb dX3_isHeard_37 (by decide) ?_
        refine lv_istore_n (lv' := [(2, .int (nI 1)), (0, .ref (b 0)), (1, .int (nI d)), (3, .int (nI i))]) hx hb dX3_isHeard_41 rfl hl (by decide) rfl (fun ls hl => ?_)
        refine lv_iinc (v := (nI (i + 1))) (lv' := [(3, .int (nI (i + 1))), (2, .int (nI 1)), (0, .ref (b 0)), (1, .int (nI d))]) hx hb dX3_isHeard_42 hl (k := 3) rfl (nI_i1 _) (by decide) rfl (fun ls hl => ?_)
        refine lv_goto (tgt := 4) hx hb dX3_isHeard_45 (by decide) ?_
        exact ih_4 _ (by omega) (trivial) (by show lv_has ls 4 [(0, .ref (b 0)), (1, .int (nI d)), (2, .int (bi (al (cbP kd ag pa hh hn td d) (i + 1) = true))), (3, .int (nI (i + 1)))]; rw [show ((bi (al (cbP kd ag pa hh hn td d) (i + 1) = true))) = (nI 1) from bi_t (al_t c_13 (decide_eq_true c_33))]; exact lv_sub hl [2, 3, 1, 0] rfl)
abbrev rm_X3_daysNow : Room := { frames := 3, cells := 0, slots := 0, locals := 67 }
theorem vf_X3_isHeard : vfacts RX3 yX3_isHeard cX3_isHeard 4 (some .boolean) 1 := ⟨⟨rfl, by decide +kernel, by decide +kernel, by decide +kernel⟩, gm_620, gm_730, gm_5, gm_621⟩
set_option maxRecDepth 100000 in
set_option maxHeartbeats 4000000 in
theorem c_X3_daysNow (l : Launch) (D : va_G) (cI cB : ClassId) (aS : Nat) (b : Nat → Nat) (st n td nd nh pl : Nat) (bs : Int32) (kd ag bo pa dm dn hh hn pg sv : Nat → Int32) (sd : Int64) (ik : Int32) (ks ktd knd knh : Nat) (kbs : Int32) (kag kbo kpa kdm kdn khh khn : Nat → Int32) (hf : Int64) (w : Int32) (hn6 : n ≤ 6) (qt : td ≤ 30) (qnh : nh ≤ 6) (qhh : hOK n hh nh) : Met l yX3_daysNow (mw yX3_daysNow cX3_daysNow 6 (some .int)) rm_X3_daysNow (RP D cI cB aS (MW cI cB b st n td nd nh pl bs kd ag bo pa dm dn hh hn pg sv sd ik ks ktd knd knh kbs kag kbo kpa kdm kdn khh khn hf) [.ref (b 0), .int w]) (vp_Si (fun r => r = (dyF (cbF kd ag pa hh hn td nh) td w))) 0 0 (fun _ => False) := by
  refine met_of (by decide) (Nat.le_of_ble_eq_true rfl) ?_
  intro p e s m below meth c ls hx hb hr hml hown hg hlocks hin hK hP hl
  have hown : s.vm.findClass RX3 = some m.cls := hown
  have hl : lv_has ls 6 [(0, .ref (b 0)), (1, .int w)] := hl
  refine lv_iconst (v := (nI 0)) hx hb dX3_daysNow_0 (by decide) ?_
  refine lv_istore_n (lv' := [(2, .int (nI 0)), (0, .ref (b 0)), (1, .int w)]) hx hb dX3_daysNow_1 rfl hl (by decide) rfl (fun ls hl => ?_)
  refine lv_iconst (v := (-1)) hx hb dX3_daysNow_2 (by decide) ?_
  refine lv_istore_n (lv' := [(3, .int (-1)), (2, .int (nI 0)), (0, .ref (b 0)), (1, .int w)]) hx hb dX3_daysNow_3 rfl hl (by decide) rfl (fun ls hl => ?_)
  refine lv_aload_n hx hb dX3_daysNow_4 rfl (lv_at hl 2 rfl) ?_
  refine va_get (D := D) (ci := 3) (v := .int (nI td)) (C := RX3) (T := TX3) (N := 32) hx hb hg us_X3 hown hK.1 hP 0 rfl rfl 6 (by decide) (hg _ gm_407) (fun _ h9 => h9) rfl dX3_daysNow_5 ?_
  refine lv_istore (lv' := [(4, .int (nI td)), (3, .int (-1)), (2, .int (nI 0)), (0, .ref (b 0)), (1, .int w)]) hx hb dX3_daysNow_8 hl (by decide) rfl (fun ls hl => ?_)
  -- loop at 10
  refine loopR (nL := 6) (B := (td + 1)) (I := fun i => True) (lv := fun i => [(0, .ref (b 0)), (1, .int w), (2, .int (nI (cr (cbF kd ag pa hh hn td nh) (td + 1 - i) i))), (3, .int (ff (cbF kd ag pa hh hn td nh) (td + 1 - i) i)), (4, .int ((nI (td + 1 - i)) - (nI 1)))]) 0 (Nat.zero_le _) (trivial) (by show lv_has ls 6 [(0, .ref (b 0)), (1, .int w), (2, .int (nI (cr (cbF kd ag pa hh hn td nh) (td + 1 - 0) 0))), (3, .int (ff (cbF kd ag pa hh hn td nh) (td + 1 - 0) 0)), (4, .int ((nI (td + 1 - 0)) - (nI 1)))]; rw [show (cr (cbF kd ag pa hh hn td nh) (td + 1 - 0) 0) = 0 from (by first | rfl | exact sub1_s td), show (ff (cbF kd ag pa hh hn td nh) (td + 1 - 0) 0) = (-1) from (by first | rfl | exact sub1_s td), show (((nI (td + 1 - 0)) - (nI 1))) = (nI td) from (by first | rfl | exact sub1_s td)]; exact lv_sub hl [3, 4, 2, 1, 0] rfl) (fun i ls hj hI hl ih => ?_)
  have hl : lv_has ls 6 [(0, .ref (b 0)), (1, .int w), (2, .int (nI (cr (cbF kd ag pa hh hn td nh) (td + 1 - i) i))), (3, .int (ff (cbF kd ag pa hh hn td nh) (td + 1 - i) i)), (4, .int ((nI (td + 1 - i)) - (nI 1)))] := hl
  have ih_10 := ih
  refine lv_iload hx hb dX3_daysNow_10 (lv_at hl 4 rfl) ?_
  refine lv_if_lt (tgt := 54) hx hb dX3_daysNow_12 (by decide) (fun c_12 => ?_) (fun c_12 => ?_)
  · skip
    have e0 := sub1_neg (by omega) c_12
    refine lv_iload_n hx hb dX3_daysNow_54 rfl (lv_at hl 1 rfl) ?_
    refine lv_if_ne (tgt := 62) hx hb dX3_daysNow_55 (by decide) (fun (c_55 : ¬ w = nI 0) => ?_) (fun (c_55 : w = nI 0) => ?_)
    · skip
      refine lv_iload_n hx hb dX3_daysNow_62 rfl (lv_at hl 3 rfl) ?_
      exact rr_i hx hb hr hlocks dX3_daysNow_63 (by unfold dyF; rw [if_neg c_55, e0, show i = td + 1 by omega])
    · skip
      refine lv_iload_n hx hb dX3_daysNow_58 rfl (lv_at hl 2 rfl) ?_
      refine lv_goto (tgt := 63) hx hb dX3_daysNow_59 (by decide) ?_
      exact rr_i hx hb hr hlocks dX3_daysNow_63 (by unfold dyF; rw [if_pos c_55, e0, show i = td + 1 by omega, cr_0])
  · skip
    obtain ⟨k, ek⟩ := sub1_pos (by omega) c_12
    rw [show (nI (td + 1 - i)) - (nI 1) = nI k from by rw [ek]; exact sub1_s k] at hl
    refine lv_aload_n hx hb dX3_daysNow_15 rfl (lv_at hl 0 rfl) ?_
    refine lv_iload hx hb dX3_daysNow_16 (lv_at hl 4 rfl) ?_
    refine rdV (As := [.int (nI k)]) (rest := []) hx hb hml hown hg (c_X3_isHeard l D cI cB aS _ st n td nd nh pl bs kd ag bo pa dm dn hh hn pg sv sd ik ks ktd knd knh kbs kag kbo kpa kdm kdn khh khn hf k (by first | assumption | omega) (by first | assumption | omega) (by first | assumption | omega) (by first | assumption | omega) (by first | assumption | omega)) gm_619 vf_X3_isHeard ⟨Nat.le_of_ble_eq_true rfl, Nat.le_of_ble_eq_true rfl⟩ ⟨rfl, rfl⟩ ⟨Nat.zero_le _, Nat.zero_le _⟩ (RP.preV hK hP (q0 := 0) (ci := 3) rfl rfl) rfl hl.1 rfl (Nat.le_of_ble_eq_true rfl) dX3_daysNow_18 ?_
    refine lv_istore (lv' := [(5, .int (bi (cbF kd ag pa hh hn td nh k = true))), (0, .ref (b 0)), (1, .int w), (2, .int (nI (cr (cbF kd ag pa hh hn td nh) (td + 1 - i) i))), (3, .int (ff (cbF kd ag pa hh hn td nh) (td + 1 - i) i)), (4, .int (nI k))]) hx hb dX3_daysNow_21 hl (by decide) rfl (fun ls hl => ?_)
    refine lv_iload_n hx hb dX3_daysNow_23 rfl (lv_at hl 3 rfl) ?_
    refine lv_iload hx hb dX3_daysNow_24 (lv_at hl 0 rfl) ?_
    refine bv_if_eq (tgt := 33) hx hb dX3_daysNow_26 (by decide) (fun c_26 => ?_) (fun c_26 => ?_)
    · skip
      refine lv_iconst (v := (nI 0)) hx hb dX3_daysNow_33 (by decide) ?_
      refine nv_iadd hx hb dX3_daysNow_34 ?_
      refine lv_istore_n (lv' := [(2, .int (nI (cr (cbF kd ag pa hh hn td nh) (td + 1 - i) i + 0))), (5, .int (bi (cbF kd ag pa hh hn td nh k = true))), (0, .ref (b 0)), (1, .int w), (3, .int (ff (cbF kd ag pa hh hn td nh) (td + 1 - i) i)), (4, .int (nI k))]) hx hb dX3_daysNow_35 rfl hl (by decide) rfl (fun ls hl => ?_)
      refine lv_iload hx hb dX3_daysNow_36 (lv_at hl 1 rfl) ?_
      refine bv_if_eq (tgt := 46) hx hb dX3_daysNow_38 (by decide) (fun c_38 => ?_) (fun c_38 => ?_)
      · skip
        refine lv_iload_n hx hb dX3_daysNow_46 rfl (lv_at hl 4 rfl) ?_
        refine lv_istore_n (lv' := [(3, .int (ff (cbF kd ag pa hh hn td nh) (td + 1 - i) i)), (2, .int (nI (cr (cbF kd ag pa hh hn td nh) (td + 1 - i) i + 0))), (5, .int (bi (cbF kd ag pa hh hn td nh k = true))), (0, .ref (b 0)), (1, .int w), (4, .int (nI k))]) hx hb dX3_daysNow_47 rfl hl (by decide) rfl (fun ls hl => ?_)
        refine lv_iinc (v := ((nI k) + Int32.ofInt (-1))) (lv' := [(4, .int ((nI k) + Int32.ofInt (-1))), (3, .int (ff (cbF kd ag pa hh hn td nh) (td + 1 - i) i)), (2, .int (nI (cr (cbF kd ag pa hh hn td nh) (td + 1 - i) i + 0))), (5, .int (bi (cbF kd ag pa hh hn td nh k = true))), (0, .ref (b 0)), (1, .int w)]) hx hb dX3_daysNow_48 hl (k := 5) rfl rfl (by decide) rfl (fun ls hl => ?_)
        refine lv_goto (tgt := 10) hx hb dX3_daysNow_51 (by decide) ?_
        exact ih_10 _ (by omega) (trivial) (by show lv_has ls 6 [(0, .ref (b 0)), (1, .int w), (2, .int (nI (cr (cbF kd ag pa hh hn td nh) (td + 1 - (i + 1)) (i + 1)))), (3, .int (ff (cbF kd ag pa hh hn td nh) (td + 1 - (i + 1)) (i + 1))), (4, .int ((nI (td + 1 - (i + 1))) - (nI 1)))]; rw [show (cr (cbF kd ag pa hh hn td nh) (td + 1 - (i + 1)) (i + 1)) = cr (cbF kd ag pa hh hn td nh) (td + 1 - i) i + 0 from (dyE1 ek c_26), show (ff (cbF kd ag pa hh hn td nh) (td + 1 - (i + 1)) (i + 1)) = ff (cbF kd ag pa hh hn td nh) (td + 1 - i) i from (dyE3 ek c_26), show ((nI (td + 1 - (i + 1))) - (nI 1)) = (nI k) + Int32.ofInt (-1) from (by rw [show td + 1 - (i + 1) = k by omega]; exact (dec_eq k).symm)]; exact lv_sub hl [4, 5, 2, 1, 0] rfl)
      · skip
        refine lv_iload hx hb dX3_daysNow_41 (lv_at hl 5 rfl) ?_
        refine lv_goto (tgt := 47) hx hb dX3_daysNow_43 (by decide) ?_
        refine lv_istore_n (lv' := [(3, .int (nI k)), (2, .int (nI (cr (cbF kd ag pa hh hn td nh) (td + 1 - i) i + 0))), (5, .int (bi (cbF kd ag pa hh hn td nh k = true))), (0, .ref (b 0)), (1, .int w), (4, .int (nI k))]) hx hb dX3_daysNow_47 rfl hl (by decide) rfl (fun ls hl => ?_)
        refine lv_iinc (v := ((nI k) + Int32.ofInt (-1))) (lv' := [(4, .int ((nI k) + Int32.ofInt (-1))), (3, .int (nI k)), (2, .int (nI (cr (cbF kd ag pa hh hn td nh) (td + 1 - i) i + 0))), (5, .int (bi (cbF kd ag pa hh hn td nh k = true))), (0, .ref (b 0)), (1, .int w)]) hx hb dX3_daysNow_48 hl (k := 5) rfl rfl (by decide) rfl (fun ls hl => ?_)
        refine lv_goto (tgt := 10) hx hb dX3_daysNow_51 (by decide) ?_
        exact ih_10 _ (by omega) (trivial) (by show lv_has ls 6 [(0, .ref (b 0)), (1, .int w), (2, .int (nI (cr (cbF kd ag pa hh hn td nh) (td + 1 - (i + 1)) (i + 1)))), (3, .int (ff (cbF kd ag pa hh hn td nh) (td + 1 - (i + 1)) (i + 1))), (4, .int ((nI (td + 1 - (i + 1))) - (nI 1)))]; rw [show (cr (cbF kd ag pa hh hn td nh) (td + 1 - (i + 1)) (i + 1)) = cr (cbF kd ag pa hh hn td nh) (td + 1 - i) i + 0 from (absurd c_38 c_26), show ((ff (cbF kd ag pa hh hn td nh) (td + 1 - (i + 1)) (i + 1))) = (nI k) from (absurd c_38 c_26), show ((nI (td + 1 - (i + 1))) - (nI 1)) = (nI k) + Int32.ofInt (-1) from (by rw [show td + 1 - (i + 1) = k by omega]; exact (dec_eq k).symm)]; exact lv_sub hl [4, 5, 2, 1, 0] rfl)
    · skip
      refine lv_iconst (v := (nI 1)) hx hb dX3_daysNow_29 (by decide) ?_
      refine lv_goto (tgt := 34) hx hb dX3_daysNow_30 (by decide) ?_
      refine nv_iadd hx hb dX3_daysNow_34 ?_
      refine lv_istore_n (lv' := [(2, .int (nI (cr (cbF kd ag pa hh hn td nh) (td + 1 - i) i + 1))), (5, .int (bi (cbF kd ag pa hh hn td nh k = true))), (0, .ref (b 0)), (1, .int w), (3, .int (ff (cbF kd ag pa hh hn td nh) (td + 1 - i) i)), (4, .int (nI k))]) hx hb dX3_daysNow_35 rfl hl (by decide) rfl (fun ls hl => ?_)
      refine lv_iload hx hb dX3_daysNow_36 (lv_at hl 1 rfl) ?_
      refine bv_if_eq (tgt := 46) hx hb dX3_daysNow_38 (by decide) (fun c_38 => ?_) (fun c_38 => ?_)
      · skip
        refine lv_iload_n hx hb dX3_daysNow_46 rfl (lv_at hl 4 rfl) ?_
        refine lv_istore_n (lv' := [(3, .int (ff (cbF kd ag pa hh hn td nh) (td + 1 - i) i)), (2, .int (nI (cr (cbF kd ag pa hh hn td nh) (td + 1 - i) i + 1))), (5, .int (bi (cbF kd ag pa hh hn td nh k = true))), (0, .ref (b 0)), (1, .int w), (4, .int (nI k))]) hx hb dX3_daysNow_47 rfl hl (by decide) rfl (fun ls hl => ?_)
        refine lv_iinc (v := ((nI k) + Int32.ofInt (-1))) (lv' := [(4, .int ((nI k) + Int32.ofInt (-1))), (3, .int (ff (cbF kd ag pa hh hn td nh) (td + 1 - i) i)), (2, .int (nI (cr (cbF kd ag pa hh hn td nh) (td + 1 - i) i + 1))), (5, .int (bi (cbF kd ag pa hh hn td nh k = true))), (0, .ref (b 0)), (1, .int w)]) hx hb dX3_daysNow_48 hl (k := 5) rfl rfl (by decide) rfl (fun ls hl => ?_)
        refine lv_goto (tgt := 10) hx hb dX3_daysNow_51 (by decide) ?_
        exact ih_10 _ (by omega) (trivial) (by show lv_has ls 6 [(0, .ref (b 0)), (1, .int w), (2, .int (nI (cr (cbF kd ag pa hh hn td nh) (td + 1 - (i + 1)) (i + 1)))), (3, .int (ff (cbF kd ag pa hh hn td nh) (td + 1 - (i + 1)) (i + 1))), (4, .int ((nI (td + 1 - (i + 1))) - (nI 1)))]; rw [show (cr (cbF kd ag pa hh hn td nh) (td + 1 - (i + 1)) (i + 1)) = cr (cbF kd ag pa hh hn td nh) (td + 1 - i) i + 1 from (absurd c_26 c_38), show (ff (cbF kd ag pa hh hn td nh) (td + 1 - (i + 1)) (i + 1)) = ff (cbF kd ag pa hh hn td nh) (td + 1 - i) i from (absurd c_26 c_38), show ((nI (td + 1 - (i + 1))) - (nI 1)) = (nI k) + Int32.ofInt (-1) from (by rw [show td + 1 - (i + 1) = k by omega]; exact (dec_eq k).symm)]; exact lv_sub hl [4, 5, 2, 1, 0] rfl)
      · skip
        refine lv_iload hx hb dX3_daysNow_41 (lv_at hl 5 rfl) ?_
        refine lv_goto (tgt := 47) hx hb dX3_daysNow_43 (by decide) ?_
        refine lv_istore_n (lv' := [(3, .int (nI k)), (2, .int (nI (cr (cbF kd ag pa hh hn td nh) (td + 1 - i) i + 1))), (5, .int (bi (cbF kd ag pa hh hn td nh k = true))), (0, .ref (b 0)), (1, .int w), (4, .int (nI k))]) hx hb dX3_daysNow_47 rfl hl (by decide) rfl (fun ls hl => ?_)
        refine lv_iinc (v := ((nI k) + Int32.ofInt (-1))) (lv' := [(4, .int ((nI k) + Int32.ofInt (-1))), (3, .int (nI k)), (2, .int (nI (cr (cbF kd ag pa hh hn td nh) (td + 1 - i) i + 1))), (5, .int (bi (cbF kd ag pa hh hn td nh k = true))), (0, .ref (b 0)), (1, .int w)]) hx hb dX3_daysNow_48 hl (k := 5) rfl rfl (by decide) rfl (fun ls hl => ?_)
        refine lv_goto (tgt := 10) hx hb dX3_daysNow_51 (by decide) ?_
        exact ih_10 _ (by omega) (trivial) (by show lv_has ls 6 [(0, .ref (b 0)), (1, .int w), (2, .int (nI (cr (cbF kd ag pa hh hn td nh) (td + 1 - (i + 1)) (i + 1)))), (3, .int (ff (cbF kd ag pa hh hn td nh) (td + 1 - (i + 1)) (i + 1))), (4, .int ((nI (td + 1 - (i + 1))) - (nI 1)))]; rw [show (cr (cbF kd ag pa hh hn td nh) (td + 1 - (i + 1)) (i + 1)) = cr (cbF kd ag pa hh hn td nh) (td + 1 - i) i + 1 from (dyE2 ek c_26), show ((ff (cbF kd ag pa hh hn td nh) (td + 1 - (i + 1)) (i + 1))) = (nI k) from (dyE4 ek c_26), show ((nI (td + 1 - (i + 1))) - (nI 1)) = (nI k) + Int32.ofInt (-1) from (by rw [show td + 1 - (i + 1) = k by omega]; exact (dec_eq k).symm)]; exact lv_sub hl [4, 5, 2, 1, 0] rfl)
abbrev rm_X3_days : Room := { frames := 4, cells := 0, slots := 0, locals := 92 }
theorem vf_X3_daysNow : vfacts RX3 yX3_daysNow cX3_daysNow 6 (some .int) 1 := ⟨⟨rfl, by decide +kernel, by decide +kernel, by decide +kernel⟩, gm_617, gm_729, gm_5, gm_618⟩
set_option maxRecDepth 100000 in
set_option maxHeartbeats 4000000 in
theorem c_X3_days (l : Launch) (D : va_G) (cI cB : ClassId) (aS : Nat) (b : Nat → Nat) (st n td nd nh pl : Nat) (bs : Int32) (kd ag bo pa dm dn hh hn pg sv : Nat → Int32) (sd : Int64) (ik : Int32) (ks ktd knd knh : Nat) (kbs : Int32) (kag kbo kpa kdm kdn khh khn : Nat → Int32) (hf : Int64) (w : Int32) (hn6 : n ≤ 6) (qt : td ≤ 30) (qnh : nh ≤ 6) (qhh : hOK n hh nh) : Met l yX3_days (mw yX3_days cX3_days 2 (some .int)) rm_X3_days (RP D cI cB aS (MW cI cB b st n td nd nh pl bs kd ag bo pa dm dn hh hn pg sv sd ik ks ktd knd knh kbs kag kbo kpa kdm kdn khh khn hf) [.ref (b 0), .int w]) (vp_Si (fun r => r = (dysF n (cbF kd ag pa hh hn td nh) td w))) 0 0 (fun _ => False) := by
  refine met_of (by decide) (Nat.le_of_ble_eq_true rfl) ?_
  intro p e s m below meth c ls hx hb hr hml hown hg hlocks hin hK hP hl
  have hown : s.vm.findClass RX3 = some m.cls := hown
  have hl : lv_has ls 2 [(0, .ref (b 0)), (1, .int w)] := hl
  refine lv_iload_n hx hb dX3_days_0 rfl (lv_at hl 1 rfl) ?_
  refine lv_iconst (v := (nI 0)) hx hb dX3_days_1 (by decide) ?_
  refine lv_iconst (v := (nI 1)) hx hb dX3_days_2 (by decide) ?_
  refine rdS (As := [.int w, .int (nI 0), .int (nI 1)]) (rest := []) hx hb hml hown hg (c_X3_within l D cI cB aS w (nI 0) (nI 1)) gm_469 sf_X3_within ⟨Nat.le_of_ble_eq_true rfl, Nat.le_of_ble_eq_true rfl⟩ ⟨rfl, rfl⟩ ⟨Nat.zero_le _, Nat.zero_le _⟩ (RP.preS hK (fun k q h => by simp at h)) rfl hl.1 rfl (Nat.le_of_ble_eq_true rfl) dX3_days_3 ?_
  refine bv_if_ne (tgt := 12) hx hb dX3_days_6 (by decide) (fun c_6 => ?_) (fun c_6 => ?_)
  · skip
    refine lv_aload_n hx hb dX3_days_12 rfl (lv_at hl 0 rfl) ?_
    refine va_get (D := D) (ci := 3) (v := .int (nI n)) (C := RX3) (T := TX3) (N := 32) hx hb hg us_X3 hown hK.1 hP 0 rfl rfl 1 (by decide) (hg _ gm_402) (fun _ h9 => h9) rfl dX3_days_13 ?_
    refine nv_if_ne (tgt := 24) hx hb dX3_days_16 (by omega) (by decide) (fun c_16 => ?_) (fun c_16 => ?_)
    · skip
      refine lv_aload_n hx hb dX3_days_24 rfl (lv_at hl 0 rfl) ?_
      refine lv_iload_n hx hb dX3_days_25 rfl (lv_at hl 1 rfl) ?_
      refine rdV (As := [.int w]) (rest := []) hx hb hml hown hg (c_X3_daysNow l D cI cB aS _ st n td nd nh pl bs kd ag bo pa dm dn hh hn pg sv sd ik ks ktd knd knh kbs kag kbo kpa kdm kdn khh khn hf w (by first | assumption | omega) (by first | assumption | omega) (by first | assumption | omega) (by first | assumption | omega)) gm_616 vf_X3_daysNow ⟨Nat.le_of_ble_eq_true rfl, Nat.le_of_ble_eq_true rfl⟩ ⟨rfl, rfl⟩ ⟨Nat.zero_le _, Nat.zero_le _⟩ (RP.preV hK hP (q0 := 0) (ci := 3) rfl rfl) rfl hl.1 rfl (Nat.le_of_ble_eq_true rfl) dX3_days_26 ?_
      exact rr_i hx hb hr hlocks dX3_days_29 (by unfold dysF; rw [if_pos c_6, if_neg c_16])
    · skip
      refine lv_bipush (v := (-103)) hx hb dX3_days_19 (by decide) ?_
      refine lv_goto (tgt := 29) hx hb dX3_days_21 (by decide) ?_
      exact rr_i hx hb hr hlocks dX3_days_29 (by unfold dysF; rw [if_pos c_6, if_pos c_16])
  · skip
    refine lv_bipush (v := (-102)) hx hb dX3_days_9 (by decide) ?_
    exact rr_i hx hb hr hlocks dX3_days_11 ((if_neg c_6).symm)
abbrev rm_X3_worstOf : Room := { frames := 3, cells := 0, slots := 0, locals := 67 }
set_option maxRecDepth 100000 in
set_option maxHeartbeats 4000000 in
theorem c_X3_worstOf (l : Launch) (D : va_G) (cI cB : ClassId) (aS : Nat) (b : Nat → Nat) (st n td nd nh pl : Nat) (bs : Int32) (kd ag bo pa dm dn hh hn pg sv : Nat → Int32) (sd : Int64) (ik : Int32) (ks ktd knd knh : Nat) (kbs : Int32) (kag kbo kpa kdm kdn khh khn : Nat → Int32) (hf : Int64) (j : Nat) (qj : j < 6) (hn6 : n ≤ 6) (qt : td ≤ 30) (qnh : nh ≤ 6) (qhh : hOK n hh nh) : Met l yX3_worstOf (mw yX3_worstOf cX3_worstOf 6 (some .int)) rm_X3_worstOf (RP D cI cB aS (MW cI cB b st n td nd nh pl bs kd ag bo pa dm dn hh hn pg sv sd ik ks ktd knd knh kbs kag kbo kpa kdm kdn khh khn hf) [.ref (b 0), .int (nI j)]) (vp_Si (fun r => r = (nI (woF (cbF kd ag pa hh hn td nh) (nOf kd ag pa td j) td)))) 0 0 (fun _ => False) := by
  refine met_of (by decide) (Nat.le_of_ble_eq_true rfl) ?_
  intro p e s m below meth c ls hx hb hr hml hown hg hlocks hin hK hP hl
  have hown : s.vm.findClass RX3 = some m.cls := hown
  have hl : lv_has ls 6 [(0, .ref (b 0)), (1, .int (nI j))] := hl
  refine lv_iconst (v := (nI 0)) hx hb dX3_worstOf_0 (by decide) ?_
  refine lv_istore_n (lv' := [(2, .int (nI 0)), (0, .ref (b 0)), (1, .int (nI j))]) hx hb dX3_worstOf_1 rfl hl (by decide) rfl (fun ls hl => ?_)
  refine lv_iconst (v := (nI 0)) hx hb dX3_worstOf_2 (by decide) ?_
  refine lv_istore_n (lv' := [(3, .int (nI 0)), (2, .int (nI 0)), (0, .ref (b 0)), (1, .int (nI j))]) hx hb dX3_worstOf_3 rfl hl (by decide) rfl (fun ls hl => ?_)
  -- loop at 4
  refine loopR (nL := 6) (B := (td + 1)) (I := fun i => True) (lv := fun i => [(0, .ref (b 0)), (1, .int (nI j)), (2, .int (nI (mxF (woP (cbF kd ag pa hh hn td nh) (nOf kd ag pa td j) td) i))), (3, .int (nI i))]) 0 (Nat.zero_le _) (trivial) (by show lv_has ls 6 [(0, .ref (b 0)), (1, .int (nI j)), (2, .int (nI (mxF (woP (cbF kd ag pa hh hn td nh) (nOf kd ag pa td j) td) 0))), (3, .int (nI 0))]; exact lv_sub hl [2, 3, 1, 0] rfl) (fun i ls hj hI hl ih => ?_)
  have hl : lv_has ls 6 [(0, .ref (b 0)), (1, .int (nI j)), (2, .int (nI (mxF (woP (cbF kd ag pa hh hn td nh) (nOf kd ag pa td j) td) i))), (3, .int (nI i))] := hl
  have ih_4 := ih
  refine lv_iload_n hx hb dX3_worstOf_4 rfl (lv_at hl 3 rfl) ?_
  refine lv_aload_n hx hb dX3_worstOf_5 rfl (lv_at hl 0 rfl) ?_
  refine va_get (D := D) (ci := 3) (v := .int (nI td)) (C := RX3) (T := TX3) (N := 32) hx hb hg us_X3 hown hK.1 hP 0 rfl rfl 6 (by decide) (hg _ gm_407) (fun _ h9 => h9) rfl dX3_worstOf_6 ?_
  refine nv_icmp_gt (tgt := 95) hx hb dX3_worstOf_9 (by omega) (by omega) (by decide) (fun c_9 => ?_) (fun c_9 => ?_)
  · skip
    refine lv_iload_n hx hb dX3_worstOf_95 rfl (lv_at hl 2 rfl) ?_
    exact rr_i hx hb hr hlocks dX3_worstOf_96 (by rw [show i = td + 1 by omega]; rfl)
  · skip
    refine lv_iconst (v := (nI 0)) hx hb dX3_worstOf_12 (by decide) ?_
    refine lv_istore (lv' := [(4, .int (nI 0)), (0, .ref (b 0)), (1, .int (nI j)), (2, .int (nI (mxF (woP (cbF kd ag pa hh hn td nh) (nOf kd ag pa td j) td) i))), (3, .int (nI i))]) hx hb dX3_worstOf_13 hl (by decide) rfl (fun ls hl => ?_)
    refine lv_iconst (v := (nI 0)) hx hb dX3_worstOf_15 (by decide) ?_
    refine lv_istore (lv' := [(5, .int (nI 0)), (4, .int (nI 0)), (0, .ref (b 0)), (1, .int (nI j)), (2, .int (nI (mxF (woP (cbF kd ag pa hh hn td nh) (nOf kd ag pa td j) td) i))), (3, .int (nI i))]) hx hb dX3_worstOf_16 hl (by decide) rfl (fun ls hl => ?_)
    -- loop at 18
    refine loopR (nL := 6) (B := (td + 1)) (I := fun k => k = 0 ∨ (cbF kd ag pa hh hn td nh) i = true) (lv := fun k => [(0, .ref (b 0)), (1, .int (nI j)), (2, .int (nI (mxF (woP (cbF kd ag pa hh hn td nh) (nOf kd ag pa td j) td) i))), (3, .int (nI i)), (4, .int (nI (cn (woQ (cbF kd ag pa hh hn td nh) (nOf kd ag pa td j) i) k))), (5, .int (nI k))]) 0 (Nat.zero_le _) (Or.inl rfl) (by show lv_has ls 6 [(0, .ref (b 0)), (1, .int (nI j)), (2, .int (nI (mxF (woP (cbF kd ag pa hh hn td nh) (nOf kd ag pa td j) td) i))), (3, .int (nI i)), (4, .int (nI (cn (woQ (cbF kd ag pa hh hn td nh) (nOf kd ag pa td j) i) 0))), (5, .int (nI 0))]; exact lv_sub hl [2, 3, 4, 5, 1, 0] rfl) (fun k ls hj hI hl ih => ?_)
    have hl : lv_has ls 6 [(0, .ref (b 0)), (1, .int (nI j)), (2, .int (nI (mxF (woP (cbF kd ag pa hh hn td nh) (nOf kd ag pa td j) td) i))), (3, .int (nI i)), (4, .int (nI (cn (woQ (cbF kd ag pa hh hn td nh) (nOf kd ag pa td j) i) k))), (5, .int (nI k))] := hl
    have hI : k = 0 ∨ (cbF kd ag pa hh hn td nh) i = true := hI
    have b1 := mwo_le (cb := (cbF kd ag pa hh hn td nh)) (v := (nOf kd ag pa td j)) (td := td) (n := i)
    have b2 := cn_le (woQ (cbF kd ag pa hh hn td nh) (nOf kd ag pa td j) i) k
    have ih_18 := ih
    refine lv_iload hx hb dX3_worstOf_18 (lv_at hl 5 rfl) ?_
    refine lv_aload_n hx hb dX3_worstOf_20 rfl (lv_at hl 0 rfl) ?_
    refine va_get (D := D) (ci := 3) (v := .int (nI td)) (C := RX3) (T := TX3) (N := 32) hx hb hg us_X3 hown hK.1 hP 0 rfl rfl 6 (by decide) (hg _ gm_407) (fun _ h9 => h9) rfl dX3_worstOf_21 ?_
    refine nv_icmp_gt (tgt := 76) hx hb dX3_worstOf_24 (by omega) (by omega) (by decide) (fun c_24 => ?_) (fun c_24 => ?_)
    · skip
      refine lv_iload hx hb dX3_worstOf_76 (lv_at hl 4 rfl) ?_
      refine lv_iload_n hx hb dX3_worstOf_78 rfl (lv_at hl 2 rfl) ?_
      refine nv_icmp_le (tgt := 87) hx hb dX3_worstOf_79 (by omega) (by omega) (by decide) (fun c_79 => ?_) (fun c_79 => ?_)
      · skip
        refine lv_iload_n hx hb dX3_worstOf_87 rfl (lv_at hl 2 rfl) ?_
        refine lv_istore_n (lv' := [(2, .int (nI (mxF (woP (cbF kd ag pa hh hn td nh) (nOf kd ag pa td j) td) i))), (0, .ref (b 0)), (1, .int (nI j)), (3, .int (nI i)), (4, .int (nI (cn (woQ (cbF kd ag pa hh hn td nh) (nOf kd ag pa td j) i) k))), (5, .int (nI k))]) hx hb dX3_worstOf_88 rfl hl (by decide) rfl (fun ls hl => ?_)
        refine lv_iinc (v := (nI (i + 1))) (lv' := [(3, .int (nI (i + 1))), (2, .int (nI (mxF (woP (cbF kd ag pa hh hn td nh) (nOf kd ag pa td j) td) i))), (0, .ref (b 0)), (1, .int (nI j)), (4, .int (nI (cn (woQ (cbF kd ag pa hh hn td nh) (nOf kd ag pa td j) i) k))), (5, .int (nI k))]) hx hb dX3_worstOf_89 hl (k := 3) rfl (nI_i1 _) (by decide) rfl (fun ls hl => ?_)
        refine lv_goto (tgt := 4) hx hb dX3_worstOf_92 (by decide) ?_
        exact ih_4 _ (by omega) (trivial) (by show lv_has ls 6 [(0, .ref (b 0)), (1, .int (nI j)), (2, .int (nI (mxF (woP (cbF kd ag pa hh hn td nh) (nOf kd ag pa td j) td) (i + 1)))), (3, .int (nI (i + 1)))]; rw [show (mxF (woP (cbF kd ag pa hh hn td nh) (nOf kd ag pa td j) td) (i + 1)) = mxF (woP (cbF kd ag pa hh hn td nh) (nOf kd ag pa td j) td) i from (mxF_1 (by rw [woP_t (hI.resolve_left (by omega)), ← show k = td + 1 by omega]; exact c_79))]; exact lv_sub hl [2, 3, 1, 0] rfl)
      · skip
        refine lv_iload hx hb dX3_worstOf_82 (lv_at hl 4 rfl) ?_
        refine lv_goto (tgt := 88) hx hb dX3_worstOf_84 (by decide) ?_
        refine lv_istore_n (lv' := [(2, .int (nI (cn (woQ (cbF kd ag pa hh hn td nh) (nOf kd ag pa td j) i) k))), (0, .ref (b 0)), (1, .int (nI j)), (3, .int (nI i)), (4, .int (nI (cn (woQ (cbF kd ag pa hh hn td nh) (nOf kd ag pa td j) i) k))), (5, .int (nI k))]) hx hb dX3_worstOf_88 rfl hl (by decide) rfl (fun ls hl => ?_)
        refine lv_iinc (v := (nI (i + 1))) (lv' := [(3, .int (nI (i + 1))), (2, .int (nI (cn (woQ (cbF kd ag pa hh hn td nh) (nOf kd ag pa td j) i) k))), (0, .ref (b 0)), (1, .int (nI j)), (4, .int (nI (cn (woQ (cbF kd ag pa hh hn td nh) (nOf kd ag pa td j) i) k))), (5, .int (nI k))]) hx hb dX3_worstOf_89 hl (k := 3) rfl (nI_i1 _) (by decide) rfl (fun ls hl => ?_)
        refine lv_goto (tgt := 4) hx hb dX3_worstOf_92 (by decide) ?_
        exact ih_4 _ (by omega) (trivial) (by show lv_has ls 6 [(0, .ref (b 0)), (1, .int (nI j)), (2, .int (nI (mxF (woP (cbF kd ag pa hh hn td nh) (nOf kd ag pa td j) td) (i + 1)))), (3, .int (nI (i + 1)))]; rw [show (mxF (woP (cbF kd ag pa hh hn td nh) (nOf kd ag pa td j) td) (i + 1)) = cn (woQ (cbF kd ag pa hh hn td nh) (nOf kd ag pa td j) i) k from (mxF_2 (by rw [woP_t (hI.resolve_left (by omega)), ← show k = td + 1 by omega]) c_79)]; exact lv_sub hl [2, 3, 1, 0] rfl)
    · skip
      refine lv_aload_n hx hb dX3_worstOf_27 rfl (lv_at hl 0 rfl) ?_
      refine lv_iload_n hx hb dX3_worstOf_28 rfl (lv_at hl 3 rfl) ?_
      refine rdV (As := [.int (nI i)]) (rest := []) hx hb hml hown hg (c_X3_isHeard l D cI cB aS _ st n td nd nh pl bs kd ag bo pa dm dn hh hn pg sv sd ik ks ktd knd knh kbs kag kbo kpa kdm kdn khh khn hf i (by first | assumption | omega) (by first | assumption | omega) (by first | assumption | omega) (by first | assumption | omega) (by first | assumption | omega)) gm_619 vf_X3_isHeard ⟨Nat.le_of_ble_eq_true rfl, Nat.le_of_ble_eq_true rfl⟩ ⟨rfl, rfl⟩ ⟨Nat.zero_le _, Nat.zero_le _⟩ (RP.preV hK hP (q0 := 0) (ci := 3) rfl rfl) rfl hl.1 rfl (Nat.le_of_ble_eq_true rfl) dX3_worstOf_29 ?_
      refine bv_if_eq (tgt := 76) hx hb dX3_worstOf_32 (by decide) (fun c_32 => ?_) (fun c_32 => ?_)
      · skip
        refine lv_iload hx hb dX3_worstOf_76 (lv_at hl 4 rfl) ?_
        refine lv_iload_n hx hb dX3_worstOf_78 rfl (lv_at hl 2 rfl) ?_
        refine nv_icmp_le (tgt := 87) hx hb dX3_worstOf_79 (by omega) (by omega) (by decide) (fun c_79 => ?_) (fun c_79 => ?_)
        · skip
          refine lv_iload_n hx hb dX3_worstOf_87 rfl (lv_at hl 2 rfl) ?_
          refine lv_istore_n (lv' := [(2, .int (nI (mxF (woP (cbF kd ag pa hh hn td nh) (nOf kd ag pa td j) td) i))), (0, .ref (b 0)), (1, .int (nI j)), (3, .int (nI i)), (4, .int (nI (cn (woQ (cbF kd ag pa hh hn td nh) (nOf kd ag pa td j) i) k))), (5, .int (nI k))]) hx hb dX3_worstOf_88 rfl hl (by decide) rfl (fun ls hl => ?_)
          refine lv_iinc (v := (nI (i + 1))) (lv' := [(3, .int (nI (i + 1))), (2, .int (nI (mxF (woP (cbF kd ag pa hh hn td nh) (nOf kd ag pa td j) td) i))), (0, .ref (b 0)), (1, .int (nI j)), (4, .int (nI (cn (woQ (cbF kd ag pa hh hn td nh) (nOf kd ag pa td j) i) k))), (5, .int (nI k))]) hx hb dX3_worstOf_89 hl (k := 3) rfl (nI_i1 _) (by decide) rfl (fun ls hl => ?_)
          refine lv_goto (tgt := 4) hx hb dX3_worstOf_92 (by decide) ?_
          exact ih_4 _ (by omega) (trivial) (by show lv_has ls 6 [(0, .ref (b 0)), (1, .int (nI j)), (2, .int (nI (mxF (woP (cbF kd ag pa hh hn td nh) (nOf kd ag pa td j) td) (i + 1)))), (3, .int (nI (i + 1)))]; rw [show (mxF (woP (cbF kd ag pa hh hn td nh) (nOf kd ag pa td j) td) (i + 1)) = mxF (woP (cbF kd ag pa hh hn td nh) (nOf kd ag pa td j) td) i from (mxF_1 (by rw [woP_f c_32]; omega))]; exact lv_sub hl [2, 3, 1, 0] rfl)
        · skip
          refine lv_iload hx hb dX3_worstOf_82 (lv_at hl 4 rfl) ?_
          refine lv_goto (tgt := 88) hx hb dX3_worstOf_84 (by decide) ?_
          refine lv_istore_n (lv' := [(2, .int (nI (cn (woQ (cbF kd ag pa hh hn td nh) (nOf kd ag pa td j) i) k))), (0, .ref (b 0)), (1, .int (nI j)), (3, .int (nI i)), (4, .int (nI (cn (woQ (cbF kd ag pa hh hn td nh) (nOf kd ag pa td j) i) k))), (5, .int (nI k))]) hx hb dX3_worstOf_88 rfl hl (by decide) rfl (fun ls hl => ?_)
          refine lv_iinc (v := (nI (i + 1))) (lv' := [(3, .int (nI (i + 1))), (2, .int (nI (cn (woQ (cbF kd ag pa hh hn td nh) (nOf kd ag pa td j) i) k))), (0, .ref (b 0)), (1, .int (nI j)), (4, .int (nI (cn (woQ (cbF kd ag pa hh hn td nh) (nOf kd ag pa td j) i) k))), (5, .int (nI k))]) hx hb dX3_worstOf_89 hl (k := 3) rfl (nI_i1 _) (by decide) rfl (fun ls hl => ?_)
          refine lv_goto (tgt := 4) hx hb dX3_worstOf_92 (by decide) ?_
          exact ih_4 _ (by omega) (trivial) (by show lv_has ls 6 [(0, .ref (b 0)), (1, .int (nI j)), (2, .int (nI (mxF (woP (cbF kd ag pa hh hn td nh) (nOf kd ag pa td j) td) (i + 1)))), (3, .int (nI (i + 1)))]; rw [show (mxF (woP (cbF kd ag pa hh hn td nh) (nOf kd ag pa td j) td) (i + 1)) = cn (woQ (cbF kd ag pa hh hn td nh) (nOf kd ag pa td j) i) k from (absurd c_79 (by have e0 := hI.resolve_right c_32; subst e0; simp only [cn]; omega))]; exact lv_sub hl [2, 3, 1, 0] rfl)
      · skip
        refine lv_iload hx hb dX3_worstOf_35 (lv_at hl 4 rfl) ?_
        refine lv_aload_n hx hb dX3_worstOf_37 rfl (lv_at hl 0 rfl) ?_
        refine lv_iload hx hb dX3_worstOf_38 (lv_at hl 5 rfl) ?_
        refine rdV (As := [.int (nI k)]) (rest := [.int (nI (cn (woQ (cbF kd ag pa hh hn td nh) (nOf kd ag pa td j) i) k))]) hx hb hml hown hg (c_X3_isHeard l D cI cB aS _ st n td nd nh pl bs kd ag bo pa dm dn hh hn pg sv sd ik ks ktd knd knh kbs kag kbo kpa kdm kdn khh khn hf k (by first | assumption | omega) (by first | assumption | omega) (by first | assumption | omega) (by first | assumption | omega) (by first | assumption | omega)) gm_619 vf_X3_isHeard ⟨Nat.le_of_ble_eq_true rfl, Nat.le_of_ble_eq_true rfl⟩ ⟨rfl, rfl⟩ ⟨Nat.zero_le _, Nat.zero_le _⟩ (RP.preV hK hP (q0 := 0) (ci := 3) rfl rfl) rfl hl.1 rfl (Nat.le_of_ble_eq_true rfl) dX3_worstOf_40 ?_
        refine bv_if_eq (tgt := 66) hx hb dX3_worstOf_43 (by decide) (fun c_43 => ?_) (fun c_43 => ?_)
        · skip
          refine lv_iconst (v := (nI 0)) hx hb dX3_worstOf_66 (by decide) ?_
          refine nv_iadd hx hb dX3_worstOf_67 ?_
          refine lv_istore (lv' := [(4, .int (nI (cn (woQ (cbF kd ag pa hh hn td nh) (nOf kd ag pa td j) i) k + 0))), (0, .ref (b 0)), (1, .int (nI j)), (2, .int (nI (mxF (woP (cbF kd ag pa hh hn td nh) (nOf kd ag pa td j) td) i))), (3, .int (nI i)), (5, .int (nI k))]) hx hb dX3_worstOf_68 hl (by decide) rfl (fun ls hl => ?_)
          refine lv_iinc (v := (nI (k + 1))) (lv' := [(5, .int (nI (k + 1))), (4, .int (nI (cn (woQ (cbF kd ag pa hh hn td nh) (nOf kd ag pa td j) i) k + 0))), (0, .ref (b 0)), (1, .int (nI j)), (2, .int (nI (mxF (woP (cbF kd ag pa hh hn td nh) (nOf kd ag pa td j) td) i))), (3, .int (nI i))]) hx hb dX3_worstOf_70 hl (k := 5) rfl (nI_i1 _) (by decide) rfl (fun ls hl => ?_)
          refine lv_goto (tgt := 18) hx hb dX3_worstOf_73 (by decide) ?_
          exact ih_18 _ (by omega) (Or.inr c_32) (by show lv_has ls 6 [(0, .ref (b 0)), (1, .int (nI j)), (2, .int (nI (mxF (woP (cbF kd ag pa hh hn td nh) (nOf kd ag pa td j) td) i))), (3, .int (nI i)), (4, .int (nI (cn (woQ (cbF kd ag pa hh hn td nh) (nOf kd ag pa td j) i) (k + 1)))), (5, .int (nI (k + 1)))]; rw [show (cn (woQ (cbF kd ag pa hh hn td nh) (nOf kd ag pa td j) i) (k + 1)) = cn (woQ (cbF kd ag pa hh hn td nh) (nOf kd ag pa td j) i) k + 0 from (cn_f (by unfold woQ; rw [Bool.eq_false_iff.mpr c_43]; rfl))]; exact lv_sub hl [2, 3, 4, 5, 1, 0] rfl)
        · skip
          refine lv_aload_n hx hb dX3_worstOf_46 rfl (lv_at hl 0 rfl) ?_
          refine lv_iload_n hx hb dX3_worstOf_47 rfl (lv_at hl 1 rfl) ?_
          refine lv_iload_n hx hb dX3_worstOf_48 rfl (lv_at hl 3 rfl) ?_
          refine rdV (As := [.int (nI j), .int (nI i)]) (rest := [.int (nI (cn (woQ (cbF kd ag pa hh hn td nh) (nOf kd ag pa td j) i) k))]) hx hb hml hown hg (c_X3_numberOn l D cI cB aS _ st n td nd nh pl bs kd ag bo pa dm dn hh hn pg sv sd ik ks ktd knd knh kbs kag kbo kpa kdm kdn khh khn hf j i (by first | assumption | omega) (by first | assumption | omega) (by first | assumption | omega)) gm_515 vf_X3_numberOn ⟨Nat.le_of_ble_eq_true rfl, Nat.le_of_ble_eq_true rfl⟩ ⟨rfl, rfl⟩ ⟨Nat.zero_le _, Nat.zero_le _⟩ (RP.preV hK hP (q0 := 0) (ci := 3) rfl rfl) rfl hl.1 rfl (Nat.le_of_ble_eq_true rfl) dX3_worstOf_49 ?_
          refine lv_aload_n hx hb dX3_worstOf_52 rfl (lv_at hl 0 rfl) ?_
          refine lv_iload_n hx hb dX3_worstOf_53 rfl (lv_at hl 1 rfl) ?_
          refine lv_iload hx hb dX3_worstOf_54 (lv_at hl 5 rfl) ?_
          refine rdV (As := [.int (nI j), .int (nI k)]) (rest := [.int (numOn kd ag pa td j i), .int (nI (cn (woQ (cbF kd ag pa hh hn td nh) (nOf kd ag pa td j) i) k))]) hx hb hml hown hg (c_X3_numberOn l D cI cB aS _ st n td nd nh pl bs kd ag bo pa dm dn hh hn pg sv sd ik ks ktd knd knh kbs kag kbo kpa kdm kdn khh khn hf j k (by first | assumption | omega) (by first | assumption | omega) (by first | assumption | omega)) gm_515 vf_X3_numberOn ⟨Nat.le_of_ble_eq_true rfl, Nat.le_of_ble_eq_true rfl⟩ ⟨rfl, rfl⟩ ⟨Nat.zero_le _, Nat.zero_le _⟩ (RP.preV hK hP (q0 := 0) (ci := 3) rfl rfl) rfl hl.1 rfl (Nat.le_of_ble_eq_true rfl) dX3_worstOf_56 ?_
          refine lv_icmp_ne (tgt := 66) hx hb dX3_worstOf_59 (by decide) (fun c_59 => ?_) (fun c_59 => ?_)
          · skip
            refine lv_iconst (v := (nI 0)) hx hb dX3_worstOf_66 (by decide) ?_
            refine nv_iadd hx hb dX3_worstOf_67 ?_
            refine lv_istore (lv' := [(4, .int (nI (cn (woQ (cbF kd ag pa hh hn td nh) (nOf kd ag pa td j) i) k + 0))), (0, .ref (b 0)), (1, .int (nI j)), (2, .int (nI (mxF (woP (cbF kd ag pa hh hn td nh) (nOf kd ag pa td j) td) i))), (3, .int (nI i)), (5, .int (nI k))]) hx hb dX3_worstOf_68 hl (by decide) rfl (fun ls hl => ?_)
            refine lv_iinc (v := (nI (k + 1))) (lv' := [(5, .int (nI (k + 1))), (4, .int (nI (cn (woQ (cbF kd ag pa hh hn td nh) (nOf kd ag pa td j) i) k + 0))), (0, .ref (b 0)), (1, .int (nI j)), (2, .int (nI (mxF (woP (cbF kd ag pa hh hn td nh) (nOf kd ag pa td j) td) i))), (3, .int (nI i))]) hx hb dX3_worstOf_70 hl (k := 5) rfl (nI_i1 _) (by decide) rfl (fun ls hl => ?_)
            refine lv_goto (tgt := 18) hx hb dX3_worstOf_73 (by decide) ?_
            exact ih_18 _ (by omega) (Or.inr c_32) (by show lv_has ls 6 [(0, .ref (b 0)), (1, .int (nI j)), (2, .int (nI (mxF (woP (cbF kd ag pa hh hn td nh) (nOf kd ag pa td j) td) i))), (3, .int (nI i)), (4, .int (nI (cn (woQ (cbF kd ag pa hh hn td nh) (nOf kd ag pa td j) i) (k + 1)))), (5, .int (nI (k + 1)))]; rw [show (cn (woQ (cbF kd ag pa hh hn td nh) (nOf kd ag pa td j) i) (k + 1)) = cn (woQ (cbF kd ag pa hh hn td nh) (nOf kd ag pa td j) i) k + 0 from (cn_f (by unfold woQ; rw [decide_eq_false c_59]; exact Bool.and_false _))]; exact lv_sub hl [2, 3, 4, 5, 1, 0] rfl)
          · skip
            refine lv_iconst (v := (nI 1)) hx hb dX3_worstOf_62 (by decide) ?_
            refine lv_goto (tgt := 67) hx hb dX3_worstOf_63 (by decide) ?_
            refine nv_iadd hx hb dX3_worstOf_67 ?_
            refine lv_istore (lv' := [(4, .int (nI (cn (woQ (cbF kd ag pa hh hn td nh) (nOf kd ag pa td j) i) k + 1))), (0, .ref (b 0)), (1, .int (nI j)), (2, .int (nI (mxF (woP (cbF kd ag pa hh hn td nh) (nOf kd ag pa td j) td) i))), (3, .int (nI i)), (5, .int (nI k))]) hx hb dX3_worstOf_68 hl (by decide) rfl (fun ls hl => ?_)
            refine lv_iinc (v := (nI (k + 1))) (lv' := [(5, .int (nI (k + 1))), (4, .int (nI (cn (woQ (cbF kd ag pa hh hn td nh) (nOf kd ag pa td j) i) k + 1))), (0, .ref (b 0)), (1, .int (nI j)), (2, .int (nI (mxF (woP (cbF kd ag pa hh hn td nh) (nOf kd ag pa td j) td) i))), (3, .int (nI i))]) hx hb dX3_worstOf_70 hl (k := 5) rfl (nI_i1 _) (by decide) rfl (fun ls hl => ?_)
            refine lv_goto (tgt := 18) hx hb dX3_worstOf_73 (by decide) ?_
            exact ih_18 _ (by omega) (Or.inr c_32) (by show lv_has ls 6 [(0, .ref (b 0)), (1, .int (nI j)), (2, .int (nI (mxF (woP (cbF kd ag pa hh hn td nh) (nOf kd ag pa td j) td) i))), (3, .int (nI i)), (4, .int (nI (cn (woQ (cbF kd ag pa hh hn td nh) (nOf kd ag pa td j) i) (k + 1)))), (5, .int (nI (k + 1)))]; rw [show (cn (woQ (cbF kd ag pa hh hn td nh) (nOf kd ag pa td j) i) (k + 1)) = cn (woQ (cbF kd ag pa hh hn td nh) (nOf kd ag pa td j) i) k + 1 from (cn_t (by unfold woQ; rw [c_43, decide_eq_true c_59]; rfl))]; exact lv_sub hl [2, 3, 4, 5, 1, 0] rfl)
abbrev rm_X3_askNow : Room := { frames := 4, cells := 0, slots := 0, locals := 92 }
theorem vf_X3_worstOf : vfacts RX3 yX3_worstOf cX3_worstOf 6 (some .int) 1 := ⟨⟨rfl, by decide +kernel, by decide +kernel, by decide +kernel⟩, gm_630, gm_732, gm_5, gm_631⟩
set_option maxRecDepth 100000 in
set_option maxHeartbeats 4000000 in
theorem c_X3_askNow (l : Launch) (D : va_G) (cI cB : ClassId) (aS : Nat) (b : Nat → Nat) (st n td nd nh pl : Nat) (bs : Int32) (kd ag bo pa dm dn hh hn pg sv : Nat → Int32) (sd : Int64) (ik : Int32) (ks ktd knd knh : Nat) (kbs : Int32) (kag kbo kpa kdm kdn khh khn : Nat → Int32) (hf : Int64)  (hn6 : n ≤ 6) (qt : td ≤ 30) (qnh : nh ≤ 6) (qhh : hOK n hh nh) : Met l yX3_askNow (mw yX3_askNow cX3_askNow 5 (some .int)) rm_X3_askNow (RP D cI cB aS (MW cI cB b st n td nd nh pl bs kd ag bo pa dm dn hh hn pg sv sd ik ks ktd knd knh kbs kag kbo kpa kdm kdn khh khn hf) [.ref (b 0)]) (vp_Si (fun r => r = (askF n kd ag pa (cbF kd ag pa hh hn td nh) td))) 0 0 (fun _ => False) := by
  refine met_of (by decide) (Nat.le_of_ble_eq_true rfl) ?_
  intro p e s m below meth c ls hx hb hr hml hown hg hlocks hin hK hP hl
  have hown : s.vm.findClass RX3 = some m.cls := hown
  have hl : lv_has ls 5 [(0, .ref (b 0))] := hl
  refine lv_iconst (v := (-1)) hx hb dX3_askNow_0 (by decide) ?_
  refine lv_istore_n (lv' := [(1, .int (-1)), (0, .ref (b 0))]) hx hb dX3_askNow_1 rfl hl (by decide) rfl (fun ls hl => ?_)
  refine lv_aload_n hx hb dX3_askNow_2 rfl (lv_at hl 1 rfl) ?_
  refine lv_iconst (v := (nI 0)) hx hb dX3_askNow_3 (by decide) ?_
  refine rdV (As := [.int (nI 0)]) (rest := []) hx hb hml hown hg (c_X3_daysNow l D cI cB aS _ st n td nd nh pl bs kd ag bo pa dm dn hh hn pg sv sd ik ks ktd knd knh kbs kag kbo kpa kdm kdn khh khn hf (nI 0) (by first | assumption | omega) (by first | assumption | omega) (by first | assumption | omega) (by first | assumption | omega)) gm_616 vf_X3_daysNow ⟨Nat.le_of_ble_eq_true rfl, Nat.le_of_ble_eq_true rfl⟩ ⟨rfl, rfl⟩ ⟨Nat.zero_le _, Nat.zero_le _⟩ (RP.preV hK hP (q0 := 0) (ci := 3) rfl rfl) rfl hl.1 rfl (Nat.le_of_ble_eq_true rfl) dX3_askNow_4 ?_
  rw [show ((dyF (cbF kd ag pa hh hn td nh) td (nI 0)) : Int32) = (nI (cn (cbF kd ag pa hh hn td nh) (td + 1))) from if_pos rfl]
  refine nv_if_ne (tgt := 14) hx hb dX3_askNow_7 (by have := cn_le (cbF kd ag pa hh hn td nh) (td + 1); omega) (by decide) (fun c_7 => ?_) (fun c_7 => ?_)
  · skip
    refine lv_ldc hx hb hown (hg _ gm_596) dX3_askNow_14 ?_
    refine lv_istore_n (lv' := [(2, .int (268435456 : Int32)), (1, .int (-1)), (0, .ref (b 0))]) hx hb dX3_askNow_16 rfl hl (by decide) rfl (fun ls hl => ?_)
    refine lv_iconst (v := (nI 0)) hx hb dX3_askNow_17 (by decide) ?_
    refine lv_istore_n (lv' := [(3, .int (nI 0)), (2, .int (268435456 : Int32)), (1, .int (-1)), (0, .ref (b 0))]) hx hb dX3_askNow_18 rfl hl (by decide) rfl (fun ls hl => ?_)
    -- loop at 19
    refine loopR (nL := 5) (B := n) (I := fun i => True) (lv := fun i => [(0, .ref (b 0)), (1, .int (asB (fun h => woF (cbF kd ag pa hh hn td nh) (nOf kd ag pa td h) td) (f0F (cbF kd ag pa hh hn td nh) td) i)), (2, .int (nI (asL (fun h => woF (cbF kd ag pa hh hn td nh) (nOf kd ag pa td h) td) (f0F (cbF kd ag pa hh hn td nh) td) i))), (3, .int (nI i))]) 0 (Nat.zero_le _) (trivial) (by show lv_has ls 5 [(0, .ref (b 0)), (1, .int (asB (fun h => woF (cbF kd ag pa hh hn td nh) (nOf kd ag pa td h) td) (f0F (cbF kd ag pa hh hn td nh) td) 0)), (2, .int (nI (asL (fun h => woF (cbF kd ag pa hh hn td nh) (nOf kd ag pa td h) td) (f0F (cbF kd ag pa hh hn td nh) td) 0))), (3, .int (nI 0))]; rw [show (asB (fun h => woF (cbF kd ag pa hh hn td nh) (nOf kd ag pa td h) td) (f0F (cbF kd ag pa hh hn td nh) td) 0) = (-1) from (by first | rfl | (show nI (f0F _ _) = _; unfold f0F; rw [if_neg c_7]; rfl) | (show f0F _ _ = _; unfold f0F; rw [if_pos c_7])), show ((nI (asL (fun h => woF (cbF kd ag pa hh hn td nh) (nOf kd ag pa td h) td) (f0F (cbF kd ag pa hh hn td nh) td) 0))) = (268435456 : Int32) from (by first | rfl | (show nI (f0F _ _) = _; unfold f0F; rw [if_neg c_7]; rfl) | (show f0F _ _ = _; unfold f0F; rw [if_pos c_7]))]; exact lv_sub hl [3, 2, 1, 0] rfl) (fun i ls hj hI hl ih => ?_)
    have hl : lv_has ls 5 [(0, .ref (b 0)), (1, .int (asB (fun h => woF (cbF kd ag pa hh hn td nh) (nOf kd ag pa td h) td) (f0F (cbF kd ag pa hh hn td nh) td) i)), (2, .int (nI (asL (fun h => woF (cbF kd ag pa hh hn td nh) (nOf kd ag pa td h) td) (f0F (cbF kd ag pa hh hn td nh) td) i))), (3, .int (nI i))] := hl
    have ih_19 := ih
    refine lv_iload_n hx hb dX3_askNow_19 rfl (lv_at hl 3 rfl) ?_
    refine lv_aload_n hx hb dX3_askNow_20 rfl (lv_at hl 0 rfl) ?_
    refine va_get (D := D) (ci := 3) (v := .int (nI n)) (C := RX3) (T := TX3) (N := 32) hx hb hg us_X3 hown hK.1 hP 0 rfl rfl 1 (by decide) (hg _ gm_402) (fun _ h9 => h9) rfl dX3_askNow_21 ?_
    refine nv_icmp_ge (tgt := 65) hx hb dX3_askNow_24 (by omega) (by omega) (by decide) (fun c_24 => ?_) (fun c_24 => ?_)
    · skip
      refine lv_iload_n hx hb dX3_askNow_65 rfl (lv_at hl 1 rfl) ?_
      exact rr_i hx hb hr hlocks dX3_askNow_66 (by unfold askF; rw [show i = n by omega])
    · skip
      refine lv_aload_n hx hb dX3_askNow_27 rfl (lv_at hl 0 rfl) ?_
      refine lv_iload_n hx hb dX3_askNow_28 rfl (lv_at hl 3 rfl) ?_
      refine rdV (As := [.int (nI i)]) (rest := []) hx hb hml hown hg (c_X3_worstOf l D cI cB aS _ st n td nd nh pl bs kd ag bo pa dm dn hh hn pg sv sd ik ks ktd knd knh kbs kag kbo kpa kdm kdn khh khn hf i (by first | assumption | omega) (by first | assumption | omega) (by first | assumption | omega) (by first | assumption | omega) (by first | assumption | omega)) gm_629 vf_X3_worstOf ⟨Nat.le_of_ble_eq_true rfl, Nat.le_of_ble_eq_true rfl⟩ ⟨rfl, rfl⟩ ⟨Nat.zero_le _, Nat.zero_le _⟩ (RP.preV hK hP (q0 := 0) (ci := 3) rfl rfl) rfl hl.1 rfl (Nat.le_of_ble_eq_true rfl) dX3_askNow_29 ?_
      refine lv_istore (lv' := [(4, .int (nI (woF (cbF kd ag pa hh hn td nh) (nOf kd ag pa td i) td))), (0, .ref (b 0)), (1, .int (asB (fun h => woF (cbF kd ag pa hh hn td nh) (nOf kd ag pa td h) td) (f0F (cbF kd ag pa hh hn td nh) td) i)), (2, .int (nI (asL (fun h => woF (cbF kd ag pa hh hn td nh) (nOf kd ag pa td h) td) (f0F (cbF kd ag pa hh hn td nh) td) i))), (3, .int (nI i))]) hx hb dX3_askNow_32 hl (by decide) rfl (fun ls hl => ?_)
      refine lv_iload hx hb dX3_askNow_34 (lv_at hl 0 rfl) ?_
      refine lv_iload_n hx hb dX3_askNow_36 rfl (lv_at hl 3 rfl) ?_
      refine nv_icmp_ge (tgt := 44) hx hb dX3_askNow_37 (by have := woF_le (cb := (cbF kd ag pa hh hn td nh)) (v := nOf kd ag pa td i) (td := td); omega) (by have := asL_le (w := (fun h => woF (cbF kd ag pa hh hn td nh) (nOf kd ag pa td h) td)) (f0 := (f0F (cbF kd ag pa hh hn td nh) td)) (h := i); have := f0F_le (cb := (cbF kd ag pa hh hn td nh)) (td := td); omega) (by decide) (fun c_37 => ?_) (fun c_37 => ?_)
      · skip
        refine lv_iload_n hx hb dX3_askNow_44 rfl (lv_at hl 2 rfl) ?_
        refine lv_istore_n (lv' := [(1, .int (asB (fun h => woF (cbF kd ag pa hh hn td nh) (nOf kd ag pa td h) td) (f0F (cbF kd ag pa hh hn td nh) td) i)), (4, .int (nI (woF (cbF kd ag pa hh hn td nh) (nOf kd ag pa td i) td))), (0, .ref (b 0)), (2, .int (nI (asL (fun h => woF (cbF kd ag pa hh hn td nh) (nOf kd ag pa td h) td) (f0F (cbF kd ag pa hh hn td nh) td) i))), (3, .int (nI i))]) hx hb dX3_askNow_45 rfl hl (by decide) rfl (fun ls hl => ?_)
        refine lv_iload hx hb dX3_askNow_46 (lv_at hl 1 rfl) ?_
        refine lv_iload_n hx hb dX3_askNow_48 rfl (lv_at hl 3 rfl) ?_
        refine nv_icmp_ge (tgt := 57) hx hb dX3_askNow_49 (by have := woF_le (cb := (cbF kd ag pa hh hn td nh)) (v := nOf kd ag pa td i) (td := td); omega) (by have := asL_le (w := (fun h => woF (cbF kd ag pa hh hn td nh) (nOf kd ag pa td h) td)) (f0 := (f0F (cbF kd ag pa hh hn td nh) td)) (h := i); have := f0F_le (cb := (cbF kd ag pa hh hn td nh)) (td := td); omega) (by decide) (fun c_49 => ?_) (fun c_49 => ?_)
        · skip
          refine lv_iload_n hx hb dX3_askNow_57 rfl (lv_at hl 3 rfl) ?_
          refine lv_istore_n (lv' := [(2, .int (nI (asL (fun h => woF (cbF kd ag pa hh hn td nh) (nOf kd ag pa td h) td) (f0F (cbF kd ag pa hh hn td nh) td) i))), (1, .int (asB (fun h => woF (cbF kd ag pa hh hn td nh) (nOf kd ag pa td h) td) (f0F (cbF kd ag pa hh hn td nh) td) i)), (4, .int (nI (woF (cbF kd ag pa hh hn td nh) (nOf kd ag pa td i) td))), (0, .ref (b 0)), (3, .int (nI i))]) hx hb dX3_askNow_58 rfl hl (by decide) rfl (fun ls hl => ?_)
          refine lv_iinc (v := (nI (i + 1))) (lv' := [(3, .int (nI (i + 1))), (2, .int (nI (asL (fun h => woF (cbF kd ag pa hh hn td nh) (nOf kd ag pa td h) td) (f0F (cbF kd ag pa hh hn td nh) td) i))), (1, .int (asB (fun h => woF (cbF kd ag pa hh hn td nh) (nOf kd ag pa td h) td) (f0F (cbF kd ag pa hh hn td nh) td) i)), (4, .int (nI (woF (cbF kd ag pa hh hn td nh) (nOf kd ag pa td i) td))), (0, .ref (b 0))]) hx hb dX3_askNow_59 hl (k := 4) rfl (nI_i1 _) (by decide) rfl (fun ls hl => ?_)
          refine lv_goto (tgt := 19) hx hb dX3_askNow_62 (by decide) ?_
          exact ih_19 _ (by omega) (trivial) (by show lv_has ls 5 [(0, .ref (b 0)), (1, .int (asB (fun h => woF (cbF kd ag pa hh hn td nh) (nOf kd ag pa td h) td) (f0F (cbF kd ag pa hh hn td nh) td) (i + 1))), (2, .int (nI (asL (fun h => woF (cbF kd ag pa hh hn td nh) (nOf kd ag pa td h) td) (f0F (cbF kd ag pa hh hn td nh) td) (i + 1)))), (3, .int (nI (i + 1)))]; rw [show (asB (fun h => woF (cbF kd ag pa hh hn td nh) (nOf kd ag pa td h) td) (f0F (cbF kd ag pa hh hn td nh) td) (i + 1)) = asB (fun h => woF (cbF kd ag pa hh hn td nh) (nOf kd ag pa td h) td) (f0F (cbF kd ag pa hh hn td nh) td) i from (asB_1 rfl c_37), show (asL (fun h => woF (cbF kd ag pa hh hn td nh) (nOf kd ag pa td h) td) (f0F (cbF kd ag pa hh hn td nh) td) (i + 1)) = asL (fun h => woF (cbF kd ag pa hh hn td nh) (nOf kd ag pa td h) td) (f0F (cbF kd ag pa hh hn td nh) td) i from (asL_1 rfl c_37)]; exact lv_sub hl [4, 2, 1, 0] rfl)
        · skip
          refine lv_iload hx hb dX3_askNow_52 (lv_at hl 1 rfl) ?_
          refine lv_goto (tgt := 58) hx hb dX3_askNow_54 (by decide) ?_
          refine lv_istore_n (lv' := [(2, .int (nI (woF (cbF kd ag pa hh hn td nh) (nOf kd ag pa td i) td))), (1, .int (asB (fun h => woF (cbF kd ag pa hh hn td nh) (nOf kd ag pa td h) td) (f0F (cbF kd ag pa hh hn td nh) td) i)), (4, .int (nI (woF (cbF kd ag pa hh hn td nh) (nOf kd ag pa td i) td))), (0, .ref (b 0)), (3, .int (nI i))]) hx hb dX3_askNow_58 rfl hl (by decide) rfl (fun ls hl => ?_)
          refine lv_iinc (v := (nI (i + 1))) (lv' := [(3, .int (nI (i + 1))), (2, .int (nI (woF (cbF kd ag pa hh hn td nh) (nOf kd ag pa td i) td))), (1, .int (asB (fun h => woF (cbF kd ag pa hh hn td nh) (nOf kd ag pa td h) td) (f0F (cbF kd ag pa hh hn td nh) td) i)), (4, .int (nI (woF (cbF kd ag pa hh hn td nh) (nOf kd ag pa td i) td))), (0, .ref (b 0))]) hx hb dX3_askNow_59 hl (k := 4) rfl (nI_i1 _) (by decide) rfl (fun ls hl => ?_)
          refine lv_goto (tgt := 19) hx hb dX3_askNow_62 (by decide) ?_
          exact ih_19 _ (by omega) (trivial) (by show lv_has ls 5 [(0, .ref (b 0)), (1, .int (asB (fun h => woF (cbF kd ag pa hh hn td nh) (nOf kd ag pa td h) td) (f0F (cbF kd ag pa hh hn td nh) td) (i + 1))), (2, .int (nI (asL (fun h => woF (cbF kd ag pa hh hn td nh) (nOf kd ag pa td h) td) (f0F (cbF kd ag pa hh hn td nh) td) (i + 1)))), (3, .int (nI (i + 1)))]; rw [show (asB (fun h => woF (cbF kd ag pa hh hn td nh) (nOf kd ag pa td h) td) (f0F (cbF kd ag pa hh hn td nh) td) (i + 1)) = asB (fun h => woF (cbF kd ag pa hh hn td nh) (nOf kd ag pa td h) td) (f0F (cbF kd ag pa hh hn td nh) td) i from (absurd c_49 (by omega)), show (asL (fun h => woF (cbF kd ag pa hh hn td nh) (nOf kd ag pa td h) td) (f0F (cbF kd ag pa hh hn td nh) td) (i + 1)) = woF (cbF kd ag pa hh hn td nh) (nOf kd ag pa td i) td from (absurd c_49 (by omega))]; exact lv_sub hl [4, 2, 1, 0] rfl)
      · skip
        refine lv_iload_n hx hb dX3_askNow_40 rfl (lv_at hl 4 rfl) ?_
        refine lv_goto (tgt := 45) hx hb dX3_askNow_41 (by decide) ?_
        refine lv_istore_n (lv' := [(1, .int (nI i)), (4, .int (nI (woF (cbF kd ag pa hh hn td nh) (nOf kd ag pa td i) td))), (0, .ref (b 0)), (2, .int (nI (asL (fun h => woF (cbF kd ag pa hh hn td nh) (nOf kd ag pa td h) td) (f0F (cbF kd ag pa hh hn td nh) td) i))), (3, .int (nI i))]) hx hb dX3_askNow_45 rfl hl (by decide) rfl (fun ls hl => ?_)
        refine lv_iload hx hb dX3_askNow_46 (lv_at hl 1 rfl) ?_
        refine lv_iload_n hx hb dX3_askNow_48 rfl (lv_at hl 3 rfl) ?_
        refine nv_icmp_ge (tgt := 57) hx hb dX3_askNow_49 (by have := woF_le (cb := (cbF kd ag pa hh hn td nh)) (v := nOf kd ag pa td i) (td := td); omega) (by have := asL_le (w := (fun h => woF (cbF kd ag pa hh hn td nh) (nOf kd ag pa td h) td)) (f0 := (f0F (cbF kd ag pa hh hn td nh) td)) (h := i); have := f0F_le (cb := (cbF kd ag pa hh hn td nh)) (td := td); omega) (by decide) (fun c_49 => ?_) (fun c_49 => ?_)
        · skip
          refine lv_iload_n hx hb dX3_askNow_57 rfl (lv_at hl 3 rfl) ?_
          refine lv_istore_n (lv' := [(2, .int (nI (asL (fun h => woF (cbF kd ag pa hh hn td nh) (nOf kd ag pa td h) td) (f0F (cbF kd ag pa hh hn td nh) td) i))), (1, .int (nI i)), (4, .int (nI (woF (cbF kd ag pa hh hn td nh) (nOf kd ag pa td i) td))), (0, .ref (b 0)), (3, .int (nI i))]) hx hb dX3_askNow_58 rfl hl (by decide) rfl (fun ls hl => ?_)
          refine lv_iinc (v := (nI (i + 1))) (lv' := [(3, .int (nI (i + 1))), (2, .int (nI (asL (fun h => woF (cbF kd ag pa hh hn td nh) (nOf kd ag pa td h) td) (f0F (cbF kd ag pa hh hn td nh) td) i))), (1, .int (nI i)), (4, .int (nI (woF (cbF kd ag pa hh hn td nh) (nOf kd ag pa td i) td))), (0, .ref (b 0))]) hx hb dX3_askNow_59 hl (k := 4) rfl (nI_i1 _) (by decide) rfl (fun ls hl => ?_)
          refine lv_goto (tgt := 19) hx hb dX3_askNow_62 (by decide) ?_
          exact ih_19 _ (by omega) (trivial) (by show lv_has ls 5 [(0, .ref (b 0)), (1, .int (asB (fun h => woF (cbF kd ag pa hh hn td nh) (nOf kd ag pa td h) td) (f0F (cbF kd ag pa hh hn td nh) td) (i + 1))), (2, .int (nI (asL (fun h => woF (cbF kd ag pa hh hn td nh) (nOf kd ag pa td h) td) (f0F (cbF kd ag pa hh hn td nh) td) (i + 1)))), (3, .int (nI (i + 1)))]; rw [show ((asB (fun h => woF (cbF kd ag pa hh hn td nh) (nOf kd ag pa td h) td) (f0F (cbF kd ag pa hh hn td nh) td) (i + 1))) = (nI i) from (absurd c_49 (by omega)), show (asL (fun h => woF (cbF kd ag pa hh hn td nh) (nOf kd ag pa td h) td) (f0F (cbF kd ag pa hh hn td nh) td) (i + 1)) = asL (fun h => woF (cbF kd ag pa hh hn td nh) (nOf kd ag pa td h) td) (f0F (cbF kd ag pa hh hn td nh) td) i from (absurd c_49 (by omega))]; exact lv_sub hl [4, 2, 1, 0] rfl)
        · skip
          refine lv_iload hx hb dX3_askNow_52 (lv_at hl 1 rfl) ?_
          refine lv_goto (tgt := 58) hx hb dX3_askNow_54 (by decide) ?_
          refine lv_istore_n (lv' := [(2, .int (nI (woF (cbF kd ag pa hh hn td nh) (nOf kd ag pa td i) td))), (1, .int (nI i)), (4, .int (nI (woF (cbF kd ag pa hh hn td nh) (nOf kd ag pa td i) td))), (0, .ref (b 0)), (3, .int (nI i))]) hx hb dX3_askNow_58 rfl hl (by decide) rfl (fun ls hl => ?_)
          refine lv_iinc (v := (nI (i + 1))) (lv' := [(3, .int (nI (i + 1))), (2, .int (nI (woF (cbF kd ag pa hh hn td nh) (nOf kd ag pa td i) td))), (1, .int (nI i)), (4, .int (nI (woF (cbF kd ag pa hh hn td nh) (nOf kd ag pa td i) td))), (0, .ref (b 0))]) hx hb dX3_askNow_59 hl (k := 4) rfl (nI_i1 _) (by decide) rfl (fun ls hl => ?_)
          refine lv_goto (tgt := 19) hx hb dX3_askNow_62 (by decide) ?_
          exact ih_19 _ (by omega) (trivial) (by show lv_has ls 5 [(0, .ref (b 0)), (1, .int (asB (fun h => woF (cbF kd ag pa hh hn td nh) (nOf kd ag pa td h) td) (f0F (cbF kd ag pa hh hn td nh) td) (i + 1))), (2, .int (nI (asL (fun h => woF (cbF kd ag pa hh hn td nh) (nOf kd ag pa td h) td) (f0F (cbF kd ag pa hh hn td nh) td) (i + 1)))), (3, .int (nI (i + 1)))]; rw [show ((asB (fun h => woF (cbF kd ag pa hh hn td nh) (nOf kd ag pa td h) td) (f0F (cbF kd ag pa hh hn td nh) td) (i + 1))) = (nI i) from (asB_2 rfl c_37), show (asL (fun h => woF (cbF kd ag pa hh hn td nh) (nOf kd ag pa td h) td) (f0F (cbF kd ag pa hh hn td nh) td) (i + 1)) = woF (cbF kd ag pa hh hn td nh) (nOf kd ag pa td i) td from (asL_2 rfl c_37)]; exact lv_sub hl [4, 2, 1, 0] rfl)
  · skip
    refine lv_iconst (v := (nI 0)) hx hb dX3_askNow_10 (by decide) ?_
    refine lv_goto (tgt := 16) hx hb dX3_askNow_11 (by decide) ?_
    refine lv_istore_n (lv' := [(2, .int (nI 0)), (1, .int (-1)), (0, .ref (b 0))]) hx hb dX3_askNow_16 rfl hl (by decide) rfl (fun ls hl => ?_)
    refine lv_iconst (v := (nI 0)) hx hb dX3_askNow_17 (by decide) ?_
    refine lv_istore_n (lv' := [(3, .int (nI 0)), (2, .int (nI 0)), (1, .int (-1)), (0, .ref (b 0))]) hx hb dX3_askNow_18 rfl hl (by decide) rfl (fun ls hl => ?_)
    -- loop at 19
    refine loopR (nL := 5) (B := n) (I := fun i => True) (lv := fun i => [(0, .ref (b 0)), (1, .int (asB (fun h => woF (cbF kd ag pa hh hn td nh) (nOf kd ag pa td h) td) (f0F (cbF kd ag pa hh hn td nh) td) i)), (2, .int (nI (asL (fun h => woF (cbF kd ag pa hh hn td nh) (nOf kd ag pa td h) td) (f0F (cbF kd ag pa hh hn td nh) td) i))), (3, .int (nI i))]) 0 (Nat.zero_le _) (trivial) (by show lv_has ls 5 [(0, .ref (b 0)), (1, .int (asB (fun h => woF (cbF kd ag pa hh hn td nh) (nOf kd ag pa td h) td) (f0F (cbF kd ag pa hh hn td nh) td) 0)), (2, .int (nI (asL (fun h => woF (cbF kd ag pa hh hn td nh) (nOf kd ag pa td h) td) (f0F (cbF kd ag pa hh hn td nh) td) 0))), (3, .int (nI 0))]; rw [show (asB (fun h => woF (cbF kd ag pa hh hn td nh) (nOf kd ag pa td h) td) (f0F (cbF kd ag pa hh hn td nh) td) 0) = (-1) from (by first | rfl | (show nI (f0F _ _) = _; unfold f0F; rw [if_neg c_7]; rfl) | (show f0F _ _ = _; unfold f0F; rw [if_pos c_7])), show (asL (fun h => woF (cbF kd ag pa hh hn td nh) (nOf kd ag pa td h) td) (f0F (cbF kd ag pa hh hn td nh) td) 0) = 0 from (by first | rfl | (show nI (f0F _ _) = _; unfold f0F; rw [if_neg c_7]; rfl) | (show f0F _ _ = _; unfold f0F; rw [if_pos c_7]))]; exact lv_sub hl [3, 2, 1, 0] rfl) (fun i ls hj hI hl ih => ?_)
    have hl : lv_has ls 5 [(0, .ref (b 0)), (1, .int (asB (fun h => woF (cbF kd ag pa hh hn td nh) (nOf kd ag pa td h) td) (f0F (cbF kd ag pa hh hn td nh) td) i)), (2, .int (nI (asL (fun h => woF (cbF kd ag pa hh hn td nh) (nOf kd ag pa td h) td) (f0F (cbF kd ag pa hh hn td nh) td) i))), (3, .int (nI i))] := hl
    have ih_19 := ih
    refine lv_iload_n hx hb dX3_askNow_19 rfl (lv_at hl 3 rfl) ?_
    refine lv_aload_n hx hb dX3_askNow_20 rfl (lv_at hl 0 rfl) ?_
    refine va_get (D := D) (ci := 3) (v := .int (nI n)) (C := RX3) (T := TX3) (N := 32) hx hb hg us_X3 hown hK.1 hP 0 rfl rfl 1 (by decide) (hg _ gm_402) (fun _ h9 => h9) rfl dX3_askNow_21 ?_
    refine nv_icmp_ge (tgt := 65) hx hb dX3_askNow_24 (by omega) (by omega) (by decide) (fun c_24 => ?_) (fun c_24 => ?_)
    · skip
      refine lv_iload_n hx hb dX3_askNow_65 rfl (lv_at hl 1 rfl) ?_
      exact rr_i hx hb hr hlocks dX3_askNow_66 (by unfold askF; rw [show i = n by omega])
    · skip
      refine lv_aload_n hx hb dX3_askNow_27 rfl (lv_at hl 0 rfl) ?_
      refine lv_iload_n hx hb dX3_askNow_28 rfl (lv_at hl 3 rfl) ?_
      refine rdV (As := [.int (nI i)]) (rest := []) hx hb hml hown hg (c_X3_worstOf l D cI cB aS _ st n td nd nh pl bs kd ag bo pa dm dn hh hn pg sv sd ik ks ktd knd knh kbs kag kbo kpa kdm kdn khh khn hf i (by first | assumption | omega) (by first | assumption | omega) (by first | assumption | omega) (by first | assumption | omega) (by first | assumption | omega)) gm_629 vf_X3_worstOf ⟨Nat.le_of_ble_eq_true rfl, Nat.le_of_ble_eq_true rfl⟩ ⟨rfl, rfl⟩ ⟨Nat.zero_le _, Nat.zero_le _⟩ (RP.preV hK hP (q0 := 0) (ci := 3) rfl rfl) rfl hl.1 rfl (Nat.le_of_ble_eq_true rfl) dX3_askNow_29 ?_
      refine lv_istore (lv' := [(4, .int (nI (woF (cbF kd ag pa hh hn td nh) (nOf kd ag pa td i) td))), (0, .ref (b 0)), (1, .int (asB (fun h => woF (cbF kd ag pa hh hn td nh) (nOf kd ag pa td h) td) (f0F (cbF kd ag pa hh hn td nh) td) i)), (2, .int (nI (asL (fun h => woF (cbF kd ag pa hh hn td nh) (nOf kd ag pa td h) td) (f0F (cbF kd ag pa hh hn td nh) td) i))), (3, .int (nI i))]) hx hb dX3_askNow_32 hl (by decide) rfl (fun ls hl => ?_)
      refine lv_iload hx hb dX3_askNow_34 (lv_at hl 0 rfl) ?_
      refine lv_iload_n hx hb dX3_askNow_36 rfl (lv_at hl 3 rfl) ?_
      refine nv_icmp_ge (tgt := 44) hx hb dX3_askNow_37 (by have := woF_le (cb := (cbF kd ag pa hh hn td nh)) (v := nOf kd ag pa td i) (td := td); omega) (by have := asL_le (w := (fun h => woF (cbF kd ag pa hh hn td nh) (nOf kd ag pa td h) td)) (f0 := (f0F (cbF kd ag pa hh hn td nh) td)) (h := i); have := f0F_le (cb := (cbF kd ag pa hh hn td nh)) (td := td); omega) (by decide) (fun c_37 => ?_) (fun c_37 => ?_)
      · skip
        refine lv_iload_n hx hb dX3_askNow_44 rfl (lv_at hl 2 rfl) ?_
        refine lv_istore_n (lv' := [(1, .int (asB (fun h => woF (cbF kd ag pa hh hn td nh) (nOf kd ag pa td h) td) (f0F (cbF kd ag pa hh hn td nh) td) i)), (4, .int (nI (woF (cbF kd ag pa hh hn td nh) (nOf kd ag pa td i) td))), (0, .ref (b 0)), (2, .int (nI (asL (fun h => woF (cbF kd ag pa hh hn td nh) (nOf kd ag pa td h) td) (f0F (cbF kd ag pa hh hn td nh) td) i))), (3, .int (nI i))]) hx hb dX3_askNow_45 rfl hl (by decide) rfl (fun ls hl => ?_)
        refine lv_iload hx hb dX3_askNow_46 (lv_at hl 1 rfl) ?_
        refine lv_iload_n hx hb dX3_askNow_48 rfl (lv_at hl 3 rfl) ?_
        refine nv_icmp_ge (tgt := 57) hx hb dX3_askNow_49 (by have := woF_le (cb := (cbF kd ag pa hh hn td nh)) (v := nOf kd ag pa td i) (td := td); omega) (by have := asL_le (w := (fun h => woF (cbF kd ag pa hh hn td nh) (nOf kd ag pa td h) td)) (f0 := (f0F (cbF kd ag pa hh hn td nh) td)) (h := i); have := f0F_le (cb := (cbF kd ag pa hh hn td nh)) (td := td); omega) (by decide) (fun c_49 => ?_) (fun c_49 => ?_)
        · skip
          refine lv_iload_n hx hb dX3_askNow_57 rfl (lv_at hl 3 rfl) ?_
          refine lv_istore_n (lv' := [(2, .int (nI (asL (fun h => woF (cbF kd ag pa hh hn td nh) (nOf kd ag pa td h) td) (f0F (cbF kd ag pa hh hn td nh) td) i))), (1, .int (asB (fun h => woF (cbF kd ag pa hh hn td nh) (nOf kd ag pa td h) td) (f0F (cbF kd ag pa hh hn td nh) td) i)), (4, .int (nI (woF (cbF kd ag pa hh hn td nh) (nOf kd ag pa td i) td))), (0, .ref (b 0)), (3, .int (nI i))]) hx hb dX3_askNow_58 rfl hl (by decide) rfl (fun ls hl => ?_)
          refine lv_iinc (v := (nI (i + 1))) (lv' := [(3, .int (nI (i + 1))), (2, .int (nI (asL (fun h => woF (cbF kd ag pa hh hn td nh) (nOf kd ag pa td h) td) (f0F (cbF kd ag pa hh hn td nh) td) i))), (1, .int (asB (fun h => woF (cbF kd ag pa hh hn td nh) (nOf kd ag pa td h) td) (f0F (cbF kd ag pa hh hn td nh) td) i)), (4, .int (nI (woF (cbF kd ag pa hh hn td nh) (nOf kd ag pa td i) td))), (0, .ref (b 0))]) hx hb dX3_askNow_59 hl (k := 4) rfl (nI_i1 _) (by decide) rfl (fun ls hl => ?_)
          refine lv_goto (tgt := 19) hx hb dX3_askNow_62 (by decide) ?_
          exact ih_19 _ (by omega) (trivial) (by show lv_has ls 5 [(0, .ref (b 0)), (1, .int (asB (fun h => woF (cbF kd ag pa hh hn td nh) (nOf kd ag pa td h) td) (f0F (cbF kd ag pa hh hn td nh) td) (i + 1))), (2, .int (nI (asL (fun h => woF (cbF kd ag pa hh hn td nh) (nOf kd ag pa td h) td) (f0F (cbF kd ag pa hh hn td nh) td) (i + 1)))), (3, .int (nI (i + 1)))]; rw [show (asB (fun h => woF (cbF kd ag pa hh hn td nh) (nOf kd ag pa td h) td) (f0F (cbF kd ag pa hh hn td nh) td) (i + 1)) = asB (fun h => woF (cbF kd ag pa hh hn td nh) (nOf kd ag pa td h) td) (f0F (cbF kd ag pa hh hn td nh) td) i from (asB_1 rfl c_37), show (asL (fun h => woF (cbF kd ag pa hh hn td nh) (nOf kd ag pa td h) td) (f0F (cbF kd ag pa hh hn td nh) td) (i + 1)) = asL (fun h => woF (cbF kd ag pa hh hn td nh) (nOf kd ag pa td h) td) (f0F (cbF kd ag pa hh hn td nh) td) i from (asL_1 rfl c_37)]; exact lv_sub hl [4, 2, 1, 0] rfl)
        · skip
          refine lv_iload hx hb dX3_askNow_52 (lv_at hl 1 rfl) ?_
          refine lv_goto (tgt := 58) hx hb dX3_askNow_54 (by decide) ?_
          refine lv_istore_n (lv' := [(2, .int (nI (woF (cbF kd ag pa hh hn td nh) (nOf kd ag pa td i) td))), (1, .int (asB (fun h => woF (cbF kd ag pa hh hn td nh) (nOf kd ag pa td h) td) (f0F (cbF kd ag pa hh hn td nh) td) i)), (4, .int (nI (woF (cbF kd ag pa hh hn td nh) (nOf kd ag pa td i) td))), (0, .ref (b 0)), (3, .int (nI i))]) hx hb dX3_askNow_58 rfl hl (by decide) rfl (fun ls hl => ?_)
          refine lv_iinc (v := (nI (i + 1))) (lv' := [(3, .int (nI (i + 1))), (2, .int (nI (woF (cbF kd ag pa hh hn td nh) (nOf kd ag pa td i) td))), (1, .int (asB (fun h => woF (cbF kd ag pa hh hn td nh) (nOf kd ag pa td h) td) (f0F (cbF kd ag pa hh hn td nh) td) i)), (4, .int (nI (woF (cbF kd ag pa hh hn td nh) (nOf kd ag pa td i) td))), (0, .ref (b 0))]) hx hb dX3_askNow_59 hl (k := 4) rfl (nI_i1 _) (by decide) rfl (fun ls hl => ?_)
          refine lv_goto (tgt := 19) hx hb dX3_askNow_62 (by decide) ?_
          exact ih_19 _ (by omega) (trivial) (by show lv_has ls 5 [(0, .ref (b 0)), (1, .int (asB (fun h => woF (cbF kd ag pa hh hn td nh) (nOf kd ag pa td h) td) (f0F (cbF kd ag pa hh hn td nh) td) (i + 1))), (2, .int (nI (asL (fun h => woF (cbF kd ag pa hh hn td nh) (nOf kd ag pa td h) td) (f0F (cbF kd ag pa hh hn td nh) td) (i + 1)))), (3, .int (nI (i + 1)))]; rw [show (asB (fun h => woF (cbF kd ag pa hh hn td nh) (nOf kd ag pa td h) td) (f0F (cbF kd ag pa hh hn td nh) td) (i + 1)) = asB (fun h => woF (cbF kd ag pa hh hn td nh) (nOf kd ag pa td h) td) (f0F (cbF kd ag pa hh hn td nh) td) i from (absurd c_49 (by omega)), show (asL (fun h => woF (cbF kd ag pa hh hn td nh) (nOf kd ag pa td h) td) (f0F (cbF kd ag pa hh hn td nh) td) (i + 1)) = woF (cbF kd ag pa hh hn td nh) (nOf kd ag pa td i) td from (absurd c_49 (by omega))]; exact lv_sub hl [4, 2, 1, 0] rfl)
      · skip
        refine lv_iload_n hx hb dX3_askNow_40 rfl (lv_at hl 4 rfl) ?_
        refine lv_goto (tgt := 45) hx hb dX3_askNow_41 (by decide) ?_
        refine lv_istore_n (lv' := [(1, .int (nI i)), (4, .int (nI (woF (cbF kd ag pa hh hn td nh) (nOf kd ag pa td i) td))), (0, .ref (b 0)), (2, .int (nI (asL (fun h => woF (cbF kd ag pa hh hn td nh) (nOf kd ag pa td h) td) (f0F (cbF kd ag pa hh hn td nh) td) i))), (3, .int (nI i))]) hx hb dX3_askNow_45 rfl hl (by decide) rfl (fun ls hl => ?_)
        refine lv_iload hx hb dX3_askNow_46 (lv_at hl 1 rfl) ?_
        refine lv_iload_n hx hb dX3_askNow_48 rfl (lv_at hl 3 rfl) ?_
        refine nv_icmp_ge (tgt := 57) hx hb dX3_askNow_49 (by have := woF_le (cb := (cbF kd ag pa hh hn td nh)) (v := nOf kd ag pa td i) (td := td); omega) (by have := asL_le (w := (fun h => woF (cbF kd ag pa hh hn td nh) (nOf kd ag pa td h) td)) (f0 := (f0F (cbF kd ag pa hh hn td nh) td)) (h := i); have := f0F_le (cb := (cbF kd ag pa hh hn td nh)) (td := td); omega) (by decide) (fun c_49 => ?_) (fun c_49 => ?_)
        · skip
          refine lv_iload_n hx hb dX3_askNow_57 rfl (lv_at hl 3 rfl) ?_
          refine lv_istore_n (lv' := [(2, .int (nI (asL (fun h => woF (cbF kd ag pa hh hn td nh) (nOf kd ag pa td h) td) (f0F (cbF kd ag pa hh hn td nh) td) i))), (1, .int (nI i)), (4, .int (nI (woF (cbF kd ag pa hh hn td nh) (nOf kd ag pa td i) td))), (0, .ref (b 0)), (3, .int (nI i))]) hx hb dX3_askNow_58 rfl hl (by decide) rfl (fun ls hl => ?_)
          refine lv_iinc (v := (nI (i + 1))) (lv' := [(3, .int (nI (i + 1))), (2, .int (nI (asL (fun h => woF (cbF kd ag pa hh hn td nh) (nOf kd ag pa td h) td) (f0F (cbF kd ag pa hh hn td nh) td) i))), (1, .int (nI i)), (4, .int (nI (woF (cbF kd ag pa hh hn td nh) (nOf kd ag pa td i) td))), (0, .ref (b 0))]) hx hb dX3_askNow_59 hl (k := 4) rfl (nI_i1 _) (by decide) rfl (fun ls hl => ?_)
          refine lv_goto (tgt := 19) hx hb dX3_askNow_62 (by decide) ?_
          exact ih_19 _ (by omega) (trivial) (by show lv_has ls 5 [(0, .ref (b 0)), (1, .int (asB (fun h => woF (cbF kd ag pa hh hn td nh) (nOf kd ag pa td h) td) (f0F (cbF kd ag pa hh hn td nh) td) (i + 1))), (2, .int (nI (asL (fun h => woF (cbF kd ag pa hh hn td nh) (nOf kd ag pa td h) td) (f0F (cbF kd ag pa hh hn td nh) td) (i + 1)))), (3, .int (nI (i + 1)))]; rw [show ((asB (fun h => woF (cbF kd ag pa hh hn td nh) (nOf kd ag pa td h) td) (f0F (cbF kd ag pa hh hn td nh) td) (i + 1))) = (nI i) from (absurd c_49 (by omega)), show (asL (fun h => woF (cbF kd ag pa hh hn td nh) (nOf kd ag pa td h) td) (f0F (cbF kd ag pa hh hn td nh) td) (i + 1)) = asL (fun h => woF (cbF kd ag pa hh hn td nh) (nOf kd ag pa td h) td) (f0F (cbF kd ag pa hh hn td nh) td) i from (absurd c_49 (by omega))]; exact lv_sub hl [4, 2, 1, 0] rfl)
        · skip
          refine lv_iload hx hb dX3_askNow_52 (lv_at hl 1 rfl) ?_
          refine lv_goto (tgt := 58) hx hb dX3_askNow_54 (by decide) ?_
          refine lv_istore_n (lv' := [(2, .int (nI (woF (cbF kd ag pa hh hn td nh) (nOf kd ag pa td i) td))), (1, .int (nI i)), (4, .int (nI (woF (cbF kd ag pa hh hn td nh) (nOf kd ag pa td i) td))), (0, .ref (b 0)), (3, .int (nI i))]) hx hb dX3_askNow_58 rfl hl (by decide) rfl (fun ls hl => ?_)
          refine lv_iinc (v := (nI (i + 1))) (lv' := [(3, .int (nI (i + 1))), (2, .int (nI (woF (cbF kd ag pa hh hn td nh) (nOf kd ag pa td i) td))), (1, .int (nI i)), (4, .int (nI (woF (cbF kd ag pa hh hn td nh) (nOf kd ag pa td i) td))), (0, .ref (b 0))]) hx hb dX3_askNow_59 hl (k := 4) rfl (nI_i1 _) (by decide) rfl (fun ls hl => ?_)
          refine lv_goto (tgt := 19) hx hb dX3_askNow_62 (by decide) ?_
          exact ih_19 _ (by omega) (trivial) (by show lv_has ls 5 [(0, .ref (b 0)), (1, .int (asB (fun h => woF (cbF kd ag pa hh hn td nh) (nOf kd ag pa td h) td) (f0F (cbF kd ag pa hh hn td nh) td) (i + 1))), (2, .int (nI (asL (fun h => woF (cbF kd ag pa hh hn td nh) (nOf kd ag pa td h) td) (f0F (cbF kd ag pa hh hn td nh) td) (i + 1)))), (3, .int (nI (i + 1)))]; rw [show ((asB (fun h => woF (cbF kd ag pa hh hn td nh) (nOf kd ag pa td h) td) (f0F (cbF kd ag pa hh hn td nh) td) (i + 1))) = (nI i) from (asB_2 rfl c_37), show (asL (fun h => woF (cbF kd ag pa hh hn td nh) (nOf kd ag pa td h) td) (f0F (cbF kd ag pa hh hn td nh) td) (i + 1)) = woF (cbF kd ag pa hh hn td nh) (nOf kd ag pa td i) td from (asL_2 rfl c_37)]; exact lv_sub hl [4, 2, 1, 0] rfl)
abbrev rm_X3_ask : Room := { frames := 5, cells := 0, slots := 0, locals := 116 }
theorem vf_X3_askNow : vfacts RX3 yX3_askNow cX3_askNow 5 (some .int) 0 := ⟨⟨rfl, by decide +kernel, by decide +kernel, by decide +kernel⟩, gm_627, gm_731, gm_5, gm_628⟩
set_option maxRecDepth 100000 in
set_option maxHeartbeats 4000000 in
theorem c_X3_ask (l : Launch) (D : va_G) (cI cB : ClassId) (aS : Nat) (b : Nat → Nat) (st n td nd nh pl : Nat) (bs : Int32) (kd ag bo pa dm dn hh hn pg sv : Nat → Int32) (sd : Int64) (ik : Int32) (ks ktd knd knh : Nat) (kbs : Int32) (kag kbo kpa kdm kdn khh khn : Nat → Int32) (hf : Int64)  (hn6 : n ≤ 6) (qt : td ≤ 30) (qnh : nh ≤ 6) (qhh : hOK n hh nh) : Met l yX3_ask (mw yX3_ask cX3_ask 1 (some .int)) rm_X3_ask (RP D cI cB aS (MW cI cB b st n td nd nh pl bs kd ag bo pa dm dn hh hn pg sv sd ik ks ktd knd knh kbs kag kbo kpa kdm kdn khh khn hf) [.ref (b 0)]) (vp_Si (fun r => r = (if n = 0 then -103 else askF n kd ag pa (cbF kd ag pa hh hn td nh) td))) 0 0 (fun _ => False) := by
  refine met_of (by decide) (Nat.le_of_ble_eq_true rfl) ?_
  intro p e s m below meth c ls hx hb hr hml hown hg hlocks hin hK hP hl
  have hown : s.vm.findClass RX3 = some m.cls := hown
  have hl : lv_has ls 1 [(0, .ref (b 0))] := hl
  refine lv_aload_n hx hb dX3_ask_0 rfl (lv_at hl 0 rfl) ?_
  refine va_get (D := D) (ci := 3) (v := .int (nI n)) (C := RX3) (T := TX3) (N := 32) hx hb hg us_X3 hown hK.1 hP 0 rfl rfl 1 (by decide) (hg _ gm_402) (fun _ h9 => h9) rfl dX3_ask_1 ?_
  refine nv_if_ne (tgt := 12) hx hb dX3_ask_4 (by omega) (by decide) (fun c_4 => ?_) (fun c_4 => ?_)
  · skip
    refine lv_aload_n hx hb dX3_ask_12 rfl (lv_at hl 0 rfl) ?_
    refine rdV (As := []) (rest := []) hx hb hml hown hg (c_X3_askNow l D cI cB aS _ st n td nd nh pl bs kd ag bo pa dm dn hh hn pg sv sd ik ks ktd knd knh kbs kag kbo kpa kdm kdn khh khn hf (by first | assumption | omega) (by first | assumption | omega) (by first | assumption | omega) (by first | assumption | omega)) gm_626 vf_X3_askNow ⟨Nat.le_of_ble_eq_true rfl, Nat.le_of_ble_eq_true rfl⟩ ⟨rfl, rfl⟩ ⟨Nat.zero_le _, Nat.zero_le _⟩ (RP.preV hK hP (q0 := 0) (ci := 3) rfl rfl) rfl hl.1 rfl (Nat.le_of_ble_eq_true rfl) dX3_ask_13 ?_
    exact rr_i hx hb hr hlocks dX3_ask_16 ((if_neg c_4).symm)
  · skip
    refine lv_bipush (v := (-103)) hx hb dX3_ask_7 (by decide) ?_
    refine lv_goto (tgt := 16) hx hb dX3_ask_9 (by decide) ?_
    exact rr_i hx hb hr hlocks dX3_ask_16 ((if_pos c_4).symm)
abbrev rm_X3_unlike : Room := { frames := 3, cells := 0, slots := 0, locals := 68 }
set_option maxRecDepth 100000 in
set_option maxHeartbeats 4000000 in
theorem c_X3_unlike (l : Launch) (D : va_G) (cI cB : ClassId) (aS : Nat) (b : Nat → Nat) (st n td nd nh pl : Nat) (bs : Int32) (kd ag bo pa dm dn hh hn pg sv : Nat → Int32) (sd : Int64) (ik : Int32) (ks ktd knd knh : Nat) (kbs : Int32) (kag kbo kpa kdm kdn khh khn : Nat → Int32) (hf : Int64)  (hn6 : n ≤ 6) (qt : td ≤ 30) : Met l yX3_unlike (mw yX3_unlike cX3_unlike 3 (some .int)) rm_X3_unlike (RP D cI cB aS (MW cI cB b st n td nd nh pl bs kd ag bo pa dm dn hh hn pg sv sd ik ks ktd knd knh kbs kag kbo kpa kdm kdn khh khn hf) [.ref (b 0)]) (vp_Si (fun r => r = (nI (unF n (nmF kd ag))))) 0 0 (fun _ => False) := by
  refine met_of (by decide) (Nat.le_of_ble_eq_true rfl) ?_
  intro p e s m below meth c ls hx hb hr hml hown hg hlocks hin hK hP hl
  have hown : s.vm.findClass RX3 = some m.cls := hown
  have hl : lv_has ls 3 [(0, .ref (b 0))] := hl
  refine lv_iconst (v := (nI 0)) hx hb dX3_unlike_0 (by decide) ?_
  refine lv_istore_n (lv' := [(1, .int (nI 0)), (0, .ref (b 0))]) hx hb dX3_unlike_1 rfl hl (by decide) rfl (fun ls hl => ?_)
  refine lv_iconst (v := (nI 0)) hx hb dX3_unlike_2 (by decide) ?_
  refine lv_istore_n (lv' := [(2, .int (nI 0)), (1, .int (nI 0)), (0, .ref (b 0))]) hx hb dX3_unlike_3 rfl hl (by decide) rfl (fun ls hl => ?_)
  -- loop at 4
  refine loopR (nL := 3) (B := n) (I := fun i => True) (lv := fun i => [(0, .ref (b 0)), (1, .int (nI (cn (fun h => decide (hwF n (nmF kd ag) (nmF kd ag h) = nI h)) i))), (2, .int (nI i))]) 0 (Nat.zero_le _) (trivial) (by show lv_has ls 3 [(0, .ref (b 0)), (1, .int (nI (cn (fun h => decide (hwF n (nmF kd ag) (nmF kd ag h) = nI h)) 0))), (2, .int (nI 0))]; exact lv_sub hl [2, 1, 0] rfl) (fun i ls hj hI hl ih => ?_)
  have hl : lv_has ls 3 [(0, .ref (b 0)), (1, .int (nI (cn (fun h => decide (hwF n (nmF kd ag) (nmF kd ag h) = nI h)) i))), (2, .int (nI i))] := hl
  have ih_4 := ih
  refine lv_iload_n hx hb dX3_unlike_4 rfl (lv_at hl 2 rfl) ?_
  refine lv_aload_n hx hb dX3_unlike_5 rfl (lv_at hl 0 rfl) ?_
  refine va_get (D := D) (ci := 3) (v := .int (nI n)) (C := RX3) (T := TX3) (N := 32) hx hb hg us_X3 hown hK.1 hP 0 rfl rfl 1 (by decide) (hg _ gm_402) (fun _ h9 => h9) rfl dX3_unlike_6 ?_
  refine nv_icmp_ge (tgt := 43) hx hb dX3_unlike_9 (by omega) (by omega) (by decide) (fun c_9 => ?_) (fun c_9 => ?_)
  · skip
    refine lv_iload_n hx hb dX3_unlike_43 rfl (lv_at hl 1 rfl) ?_
    exact rr_i hx hb hr hlocks dX3_unlike_44 (by rw [show i = n by omega]; rfl)
  · skip
    refine lv_iload_n hx hb dX3_unlike_12 rfl (lv_at hl 1 rfl) ?_
    refine lv_aload_n hx hb dX3_unlike_13 rfl (lv_at hl 0 rfl) ?_
    refine lv_aload_n hx hb dX3_unlike_14 rfl (lv_at hl 0 rfl) ?_
    refine lv_iload_n hx hb dX3_unlike_15 rfl (lv_at hl 2 rfl) ?_
    refine rdV (As := [.int (nI i)]) (rest := [.ref (b 0), .int (nI (cn (fun h => decide (hwF n (nmF kd ag) (nmF kd ag h) = nI h)) i))]) hx hb hml hown hg (c_X3_number l D cI cB aS _ st n td nd nh pl bs kd ag bo pa dm dn hh hn pg sv sd ik ks ktd knd knh kbs kag kbo kpa kdm kdn khh khn hf i (by first | assumption | omega)) gm_503 vf_X3_number ⟨Nat.le_of_ble_eq_true rfl, Nat.le_of_ble_eq_true rfl⟩ ⟨rfl, rfl⟩ ⟨Nat.zero_le _, Nat.zero_le _⟩ (RP.preV hK hP (q0 := 0) (ci := 3) rfl rfl) rfl hl.1 rfl (Nat.le_of_ble_eq_true rfl) dX3_unlike_16 ?_
    refine lv_aload_n hx hb dX3_unlike_19 rfl (lv_at hl 0 rfl) ?_
    refine va_get (D := D) (ci := 3) (v := .int (nI td)) (C := RX3) (T := TX3) (N := 32) hx hb hg us_X3 hown hK.1 hP 0 rfl rfl 6 (by decide) (hg _ gm_407) (fun _ h9 => h9) rfl dX3_unlike_20 ?_
    refine rdV (As := [.int (nmF kd ag i), .int (nI td)]) (rest := [.int (nI (cn (fun h => decide (hwF n (nmF kd ag) (nmF kd ag h) = nI h)) i))]) hx hb hml hown hg (c_X3_houseOf l D cI cB aS _ st n td nd nh pl bs kd ag bo pa dm dn hh hn pg sv sd ik ks ktd knd knh kbs kag kbo kpa kdm kdn khh khn hf (nmF kd ag i) td (by first | assumption | omega) (by first | assumption | omega) (by first | assumption | omega)) gm_512 vf_X3_houseOf ⟨Nat.le_of_ble_eq_true rfl, Nat.le_of_ble_eq_true rfl⟩ ⟨rfl, rfl⟩ ⟨Nat.zero_le _, Nat.zero_le _⟩ (RP.preV hK hP (q0 := 0) (ci := 3) rfl rfl) rfl hl.1 rfl (Nat.le_of_ble_eq_true rfl) dX3_unlike_23 ?_
    rw [show ((hwF n (fun h => numOn kd ag pa td h td) (nmF kd ag i)) : Int32) = (hwF n (nmF kd ag) (nmF kd ag i)) from hwF_now]
    refine lv_iload_n hx hb dX3_unlike_26 rfl (lv_at hl 2 rfl) ?_
    refine lv_icmp_ne (tgt := 34) hx hb dX3_unlike_27 (by decide) (fun c_27 => ?_) (fun c_27 => ?_)
    · skip
      refine lv_iconst (v := (nI 0)) hx hb dX3_unlike_34 (by decide) ?_
      refine nv_iadd hx hb dX3_unlike_35 ?_
      refine lv_istore_n (lv' := [(1, .int (nI (cn (fun h => decide (hwF n (nmF kd ag) (nmF kd ag h) = nI h)) i + 0))), (0, .ref (b 0)), (2, .int (nI i))]) hx hb dX3_unlike_36 rfl hl (by decide) rfl (fun ls hl => ?_)
      refine lv_iinc (v := (nI (i + 1))) (lv' := [(2, .int (nI (i + 1))), (1, .int (nI (cn (fun h => decide (hwF n (nmF kd ag) (nmF kd ag h) = nI h)) i + 0))), (0, .ref (b 0))]) hx hb dX3_unlike_37 hl (k := 2) rfl (nI_i1 _) (by decide) rfl (fun ls hl => ?_)
      refine lv_goto (tgt := 4) hx hb dX3_unlike_40 (by decide) ?_
      exact ih_4 _ (by omega) (trivial) (by show lv_has ls 3 [(0, .ref (b 0)), (1, .int (nI (cn (fun h => decide (hwF n (nmF kd ag) (nmF kd ag h) = nI h)) (i + 1)))), (2, .int (nI (i + 1)))]; rw [show (cn (fun h => decide (hwF n (nmF kd ag) (nmF kd ag h) = nI h)) (i + 1)) = cn (fun h => decide (hwF n (nmF kd ag) (nmF kd ag h) = nI h)) i + 0 from cn_f (decide_eq_false c_27)]; exact lv_sub hl [2, 1, 0] rfl)
    · skip
      refine lv_iconst (v := (nI 1)) hx hb dX3_unlike_30 (by decide) ?_
      refine lv_goto (tgt := 35) hx hb dX3_unlike_31 (by decide) ?_
      refine nv_iadd hx hb dX3_unlike_35 ?_
      refine lv_istore_n (lv' := [(1, .int (nI (cn (fun h => decide (hwF n (nmF kd ag) (nmF kd ag h) = nI h)) i + 1))), (0, .ref (b 0)), (2, .int (nI i))]) hx hb dX3_unlike_36 rfl hl (by decide) rfl (fun ls hl => ?_)
      refine lv_iinc (v := (nI (i + 1))) (lv' := [(2, .int (nI (i + 1))), (1, .int (nI (cn (fun h => decide (hwF n (nmF kd ag) (nmF kd ag h) = nI h)) i + 1))), (0, .ref (b 0))]) hx hb dX3_unlike_37 hl (k := 2) rfl (nI_i1 _) (by decide) rfl (fun ls hl => ?_)
      refine lv_goto (tgt := 4) hx hb dX3_unlike_40 (by decide) ?_
      exact ih_4 _ (by omega) (trivial) (by show lv_has ls 3 [(0, .ref (b 0)), (1, .int (nI (cn (fun h => decide (hwF n (nmF kd ag) (nmF kd ag h) = nI h)) (i + 1)))), (2, .int (nI (i + 1)))]; rw [show (cn (fun h => decide (hwF n (nmF kd ag) (nmF kd ag h) = nI h)) (i + 1)) = cn (fun h => decide (hwF n (nmF kd ag) (nmF kd ag h) = nI h)) i + 1 from cn_t (decide_eq_true c_27)]; exact lv_sub hl [2, 1, 0] rfl)
abbrev rm_X3_owesAll : Room := { frames := 4, cells := 0, slots := 0, locals := 91 }
set_option maxRecDepth 100000 in
set_option maxHeartbeats 4000000 in
theorem c_X3_owesAll (l : Launch) (D : va_G) (cI cB : ClassId) (aS : Nat) (b : Nat → Nat) (st n td nd nh pl : Nat) (bs : Int32) (kd ag bo pa dm dn hh hn pg sv : Nat → Int32) (sd : Int64) (ik : Int32) (ks ktd knd knh : Nat) (kbs : Int32) (kag kbo kpa kdm kdn khh khn : Nat → Int32) (hf : Int64)  (hn6 : n ≤ 6) (qnd : nd ≤ 6) (qt : td ≤ 30) : Met l yX3_owesAll (mw yX3_owesAll cX3_owesAll 3 (some .int)) rm_X3_owesAll (RP D cI cB aS (MW cI cB b st n td nd nh pl bs kd ag bo pa dm dn hh hn pg sv sd ik ks ktd knd knh kbs kag kbo kpa kdm kdn khh khn hf) [.ref (b 0)]) (vp_Si (fun r => r = (owA n (nmF kd ag) dm dn nd))) 0 0 (fun _ => False) := by
  refine met_of (by decide) (Nat.le_of_ble_eq_true rfl) ?_
  intro p e s m below meth c ls hx hb hr hml hown hg hlocks hin hK hP hl
  have hown : s.vm.findClass RX3 = some m.cls := hown
  have hl : lv_has ls 3 [(0, .ref (b 0))] := hl
  refine lv_iconst (v := (nI 0)) hx hb dX3_owesAll_0 (by decide) ?_
  refine lv_istore_n (lv' := [(1, .int (nI 0)), (0, .ref (b 0))]) hx hb dX3_owesAll_1 rfl hl (by decide) rfl (fun ls hl => ?_)
  refine lv_iconst (v := (nI 0)) hx hb dX3_owesAll_2 (by decide) ?_
  refine lv_istore_n (lv' := [(2, .int (nI 0)), (1, .int (nI 0)), (0, .ref (b 0))]) hx hb dX3_owesAll_3 rfl hl (by decide) rfl (fun ls hl => ?_)
  -- loop at 4
  refine loopR (nL := 3) (B := n) (I := fun i => True) (lv := fun i => [(0, .ref (b 0)), (1, .int (sm (fun h => owF n (nmF kd ag) dm dn nd h) i)), (2, .int (nI i))]) 0 (Nat.zero_le _) (trivial) (by show lv_has ls 3 [(0, .ref (b 0)), (1, .int (sm (fun h => owF n (nmF kd ag) dm dn nd h) 0)), (2, .int (nI 0))]; exact lv_sub hl [2, 1, 0] rfl) (fun i ls hj hI hl ih => ?_)
  have hl : lv_has ls 3 [(0, .ref (b 0)), (1, .int (sm (fun h => owF n (nmF kd ag) dm dn nd h) i)), (2, .int (nI i))] := hl
  have ih_4 := ih
  refine lv_iload_n hx hb dX3_owesAll_4 rfl (lv_at hl 2 rfl) ?_
  refine lv_aload_n hx hb dX3_owesAll_5 rfl (lv_at hl 0 rfl) ?_
  refine va_get (D := D) (ci := 3) (v := .int (nI n)) (C := RX3) (T := TX3) (N := 32) hx hb hg us_X3 hown hK.1 hP 0 rfl rfl 1 (by decide) (hg _ gm_402) (fun _ h9 => h9) rfl dX3_owesAll_6 ?_
  refine nv_icmp_ge (tgt := 26) hx hb dX3_owesAll_9 (by omega) (by omega) (by decide) (fun c_9 => ?_) (fun c_9 => ?_)
  · skip
    refine lv_iload_n hx hb dX3_owesAll_26 rfl (lv_at hl 1 rfl) ?_
    exact rr_i hx hb hr hlocks dX3_owesAll_27 (by rw [show i = n by omega]; rfl)
  · skip
    refine lv_iload_n hx hb dX3_owesAll_12 rfl (lv_at hl 1 rfl) ?_
    refine lv_aload_n hx hb dX3_owesAll_13 rfl (lv_at hl 0 rfl) ?_
    refine lv_iload_n hx hb dX3_owesAll_14 rfl (lv_at hl 2 rfl) ?_
    refine rdV (As := [.int (nI i)]) (rest := [.int (sm (fun h => owF n (nmF kd ag) dm dn nd h) i)]) hx hb hml hown hg (c_X3_owes l D cI cB aS _ st n td nd nh pl bs kd ag bo pa dm dn hh hn pg sv sd ik ks ktd knd knh kbs kag kbo kpa kdm kdn khh khn hf i (by first | assumption | omega) (by first | assumption | omega) (by first | assumption | omega) (by first | assumption | omega)) gm_509 vf_X3_owes ⟨Nat.le_of_ble_eq_true rfl, Nat.le_of_ble_eq_true rfl⟩ ⟨rfl, rfl⟩ ⟨Nat.zero_le _, Nat.zero_le _⟩ (RP.preV hK hP (q0 := 0) (ci := 3) rfl rfl) rfl hl.1 rfl (Nat.le_of_ble_eq_true rfl) dX3_owesAll_15 ?_
    refine lv_iadd hx hb dX3_owesAll_18 ?_
    refine lv_istore_n (lv' := [(1, .int ((sm (fun h => owF n (nmF kd ag) dm dn nd h) i) + (owF n (nmF kd ag) dm dn nd i))), (0, .ref (b 0)), (2, .int (nI i))]) hx hb dX3_owesAll_19 rfl hl (by decide) rfl (fun ls hl => ?_)
    refine lv_iinc (v := (nI (i + 1))) (lv' := [(2, .int (nI (i + 1))), (1, .int ((sm (fun h => owF n (nmF kd ag) dm dn nd h) i) + (owF n (nmF kd ag) dm dn nd i))), (0, .ref (b 0))]) hx hb dX3_owesAll_20 hl (k := 2) rfl (nI_i1 _) (by decide) rfl (fun ls hl => ?_)
    refine lv_goto (tgt := 4) hx hb dX3_owesAll_23 (by decide) ?_
    exact ih_4 _ (by omega) (trivial) (by show lv_has ls 3 [(0, .ref (b 0)), (1, .int (sm (fun h => owF n (nmF kd ag) dm dn nd h) (i + 1))), (2, .int (nI (i + 1)))]; rw [show (sm (fun h => owF n (nmF kd ag) dm dn nd h) (i + 1)) = (sm (fun h => owF n (nmF kd ag) dm dn nd h) i) + (owF n (nmF kd ag) dm dn nd i) from rfl]; exact lv_sub hl [2, 1, 0] rfl)
abbrev rm_X3_howMany : Room := { frames := 5, cells := 0, slots := 0, locals := 113 }
theorem vf_X3_numbersAll : vfacts RX3 yX3_numbersAll cX3_numbersAll 3 (some .int) 0 := ⟨⟨rfl, by decide +kernel, by decide +kernel, by decide +kernel⟩, gm_591, gm_726, gm_5, gm_592⟩
theorem vf_X3_unlike : vfacts RX3 yX3_unlike cX3_unlike 3 (some .int) 0 := ⟨⟨rfl, by decide +kernel, by decide +kernel, by decide +kernel⟩, gm_662, gm_736, gm_5, gm_663⟩
theorem vf_X3_owesAll : vfacts RX3 yX3_owesAll cX3_owesAll 3 (some .int) 0 := ⟨⟨rfl, by decide +kernel, by decide +kernel, by decide +kernel⟩, gm_665, gm_737, gm_5, gm_666⟩
set_option maxRecDepth 100000 in
set_option maxHeartbeats 4000000 in
theorem c_X3_howMany (l : Launch) (D : va_G) (cI cB : ClassId) (aS : Nat) (b : Nat → Nat) (st n td nd nh pl : Nat) (bs : Int32) (kd ag bo pa dm dn hh hn pg sv : Nat → Int32) (sd : Int64) (ik : Int32) (ks ktd knd knh : Nat) (kbs : Int32) (kag kbo kpa kdm kdn khh khn : Nat → Int32) (hf : Int64) (w : Int32) (hn6 : n ≤ 6) (qnd : nd ≤ 6) (qt : td ≤ 30) : Met l yX3_howMany (mw yX3_howMany cX3_howMany 2 (some .int)) rm_X3_howMany (RP D cI cB aS (MW cI cB b st n td nd nh pl bs kd ag bo pa dm dn hh hn pg sv sd ik ks ktd knd knh kbs kag kbo kpa kdm kdn khh khn hf) [.ref (b 0), .int w]) (vp_Si (fun r => r = (cntF n td bs kd ag dm dn nd nh pl st w))) 0 0 (fun _ => False) := by
  refine met_of (by decide) (Nat.le_of_ble_eq_true rfl) ?_
  intro p e s m below meth c ls hx hb hr hml hown hg hlocks hin hK hP hl
  have hown : s.vm.findClass RX3 = some m.cls := hown
  have hl : lv_has ls 2 [(0, .ref (b 0)), (1, .int w)] := hl
  refine lv_iload_n hx hb dX3_howMany_0 rfl (lv_at hl 1 rfl) ?_
  by_cases c_1 : x_in w 9
  · obtain ⟨w_1, hw_1, ew_1⟩ := x_in_of c_1 (by decide)
    subst ew_1
    rcases (show w_1 = 0 ∨ w_1 = 1 ∨ w_1 = 2 ∨ w_1 = 3 ∨ w_1 = 4 ∨ w_1 = 5 ∨ w_1 = 6 ∨ w_1 = 7 ∨ w_1 = 8 ∨ w_1 = 9 by omega) with rfl | rfl | rfl | rfl | rfl | rfl | rfl | rfl | rfl | rfl
    · refine lv_tableIn (off := 55) (tgt := 56) hx hb dX3_howMany_1 (by decide) (by decide) rfl (by decide) ?_
      refine lv_aload_n hx hb dX3_howMany_56 rfl (lv_at hl 0 rfl) ?_
      refine va_get (D := D) (ci := 3) (v := .int (nI n)) (C := RX3) (T := TX3) (N := 32) hx hb hg us_X3 hown hK.1 hP 0 rfl rfl 1 (by decide) (hg _ gm_402) (fun _ h9 => h9) rfl dX3_howMany_57 ?_
      exact rr_i hx hb hr hlocks dX3_howMany_60 ((cnt_ok (w := 0) (by decide)).symm)
    · refine lv_tableIn (off := 60) (tgt := 61) hx hb dX3_howMany_1 (by decide) (by decide) rfl (by decide) ?_
      refine lv_aload_n hx hb dX3_howMany_61 rfl (lv_at hl 0 rfl) ?_
      refine va_get (D := D) (ci := 3) (v := .int (nI td)) (C := RX3) (T := TX3) (N := 32) hx hb hg us_X3 hown hK.1 hP 0 rfl rfl 6 (by decide) (hg _ gm_407) (fun _ h9 => h9) rfl dX3_howMany_62 ?_
      exact rr_i hx hb hr hlocks dX3_howMany_65 ((cnt_ok (w := 1) (by decide)).symm)
    · refine lv_tableIn (off := 65) (tgt := 66) hx hb dX3_howMany_1 (by decide) (by decide) rfl (by decide) ?_
      refine lv_aload_n hx hb dX3_howMany_66 rfl (lv_at hl 0 rfl) ?_
      refine va_get (D := D) (ci := 3) (v := .int bs) (C := RX3) (T := TX3) (N := 32) hx hb hg us_X3 hown hK.1 hP 0 rfl rfl 7 (by decide) (hg _ gm_408) (fun _ h9 => h9) rfl dX3_howMany_67 ?_
      exact rr_i hx hb hr hlocks dX3_howMany_70 ((cnt_ok (w := 2) (by decide)).symm)
    · refine lv_tableIn (off := 70) (tgt := 71) hx hb dX3_howMany_1 (by decide) (by decide) rfl (by decide) ?_
      refine lv_aload_n hx hb dX3_howMany_71 rfl (lv_at hl 0 rfl) ?_
      refine rdV (As := []) (rest := []) hx hb hml hown hg (c_X3_numbersAll l D cI cB aS _ st n td nd nh pl bs kd ag bo pa dm dn hh hn pg sv sd ik ks ktd knd knh kbs kag kbo kpa kdm kdn khh khn hf (by first | assumption | omega)) gm_590 vf_X3_numbersAll ⟨Nat.le_of_ble_eq_true rfl, Nat.le_of_ble_eq_true rfl⟩ ⟨rfl, rfl⟩ ⟨Nat.zero_le _, Nat.zero_le _⟩ (RP.preV hK hP (q0 := 0) (ci := 3) rfl rfl) rfl hl.1 rfl (Nat.le_of_ble_eq_true rfl) dX3_howMany_72 ?_
      exact rr_i hx hb hr hlocks dX3_howMany_75 ((cnt_ok (w := 3) (by decide)).symm)
    · refine lv_tableIn (off := 75) (tgt := 76) hx hb dX3_howMany_1 (by decide) (by decide) rfl (by decide) ?_
      refine lv_aload_n hx hb dX3_howMany_76 rfl (lv_at hl 0 rfl) ?_
      refine rdV (As := []) (rest := []) hx hb hml hown hg (c_X3_unlike l D cI cB aS _ st n td nd nh pl bs kd ag bo pa dm dn hh hn pg sv sd ik ks ktd knd knh kbs kag kbo kpa kdm kdn khh khn hf (by first | assumption | omega) (by first | assumption | omega)) gm_661 vf_X3_unlike ⟨Nat.le_of_ble_eq_true rfl, Nat.le_of_ble_eq_true rfl⟩ ⟨rfl, rfl⟩ ⟨Nat.zero_le _, Nat.zero_le _⟩ (RP.preV hK hP (q0 := 0) (ci := 3) rfl rfl) rfl hl.1 rfl (Nat.le_of_ble_eq_true rfl) dX3_howMany_77 ?_
      exact rr_i hx hb hr hlocks dX3_howMany_80 ((cnt_ok (w := 4) (by decide)).symm)
    · refine lv_tableIn (off := 80) (tgt := 81) hx hb dX3_howMany_1 (by decide) (by decide) rfl (by decide) ?_
      refine lv_aload_n hx hb dX3_howMany_81 rfl (lv_at hl 0 rfl) ?_
      refine va_get (D := D) (ci := 3) (v := .int (nI nd)) (C := RX3) (T := TX3) (N := 32) hx hb hg us_X3 hown hK.1 hP 0 rfl rfl 8 (by decide) (hg _ gm_409) (fun _ h9 => h9) rfl dX3_howMany_82 ?_
      exact rr_i hx hb hr hlocks dX3_howMany_85 ((cnt_ok (w := 5) (by decide)).symm)
    · refine lv_tableIn (off := 85) (tgt := 86) hx hb dX3_howMany_1 (by decide) (by decide) rfl (by decide) ?_
      refine lv_aload_n hx hb dX3_howMany_86 rfl (lv_at hl 0 rfl) ?_
      refine rdV (As := []) (rest := []) hx hb hml hown hg (c_X3_owesAll l D cI cB aS _ st n td nd nh pl bs kd ag bo pa dm dn hh hn pg sv sd ik ks ktd knd knh kbs kag kbo kpa kdm kdn khh khn hf (by first | assumption | omega) (by first | assumption | omega) (by first | assumption | omega)) gm_664 vf_X3_owesAll ⟨Nat.le_of_ble_eq_true rfl, Nat.le_of_ble_eq_true rfl⟩ ⟨rfl, rfl⟩ ⟨Nat.zero_le _, Nat.zero_le _⟩ (RP.preV hK hP (q0 := 0) (ci := 3) rfl rfl) rfl hl.1 rfl (Nat.le_of_ble_eq_true rfl) dX3_howMany_87 ?_
      exact rr_i hx hb hr hlocks dX3_howMany_90 ((cnt_ok (w := 6) (by decide)).symm)
    · refine lv_tableIn (off := 90) (tgt := 91) hx hb dX3_howMany_1 (by decide) (by decide) rfl (by decide) ?_
      refine lv_aload_n hx hb dX3_howMany_91 rfl (lv_at hl 0 rfl) ?_
      refine va_get (D := D) (ci := 3) (v := .int (nI nh)) (C := RX3) (T := TX3) (N := 32) hx hb hg us_X3 hown hK.1 hP 0 rfl rfl 11 (by decide) (hg _ gm_412) (fun _ h9 => h9) rfl dX3_howMany_92 ?_
      exact rr_i hx hb hr hlocks dX3_howMany_95 ((cnt_ok (w := 7) (by decide)).symm)
    · refine lv_tableIn (off := 95) (tgt := 96) hx hb dX3_howMany_1 (by decide) (by decide) rfl (by decide) ?_
      refine lv_aload_n hx hb dX3_howMany_96 rfl (lv_at hl 0 rfl) ?_
      refine va_get (D := D) (ci := 3) (v := .int (nI pl)) (C := RX3) (T := TX3) (N := 32) hx hb hg us_X3 hown hK.1 hP 0 rfl rfl 14 (by decide) (hg _ gm_415) (fun _ h9 => h9) rfl dX3_howMany_97 ?_
      exact rr_i hx hb hr hlocks dX3_howMany_100 ((cnt_ok (w := 8) (by decide)).symm)
    · refine lv_tableIn (off := 100) (tgt := 101) hx hb dX3_howMany_1 (by decide) (by decide) rfl (by decide) ?_
      refine lv_aload_n hx hb dX3_howMany_101 rfl (lv_at hl 0 rfl) ?_
      refine va_get (D := D) (ci := 3) (v := .int (nI st)) (C := RX3) (T := TX3) (N := 32) hx hb hg us_X3 hown hK.1 hP 0 rfl rfl 0 (by decide) (hg _ gm_401) (fun _ h9 => h9) rfl dX3_howMany_102 ?_
      exact rr_i hx hb hr hlocks dX3_howMany_105 ((cnt_ok (w := 9) (by decide)).symm)
  · refine lv_tableOut (tgt := 106) hx hb dX3_howMany_1 (x_out c_1 (by decide)) (by decide) ?_
    refine lv_bipush (v := (-102)) hx hb dX3_howMany_106 (by decide) ?_
    exact rr_i hx hb hr hlocks dX3_howMany_108 ((if_neg c_1).symm)
abbrev rm_X3_count : Room := { frames := 6, cells := 0, slots := 0, locals := 134 }
theorem vf_X3_howMany : vfacts RX3 yX3_howMany cX3_howMany 2 (some .int) 1 := ⟨⟨rfl, by decide +kernel, by decide +kernel, by decide +kernel⟩, gm_659, gm_735, gm_5, gm_660⟩
set_option maxRecDepth 100000 in
set_option maxHeartbeats 4000000 in
theorem c_X3_count (l : Launch) (D : va_G) (cI cB : ClassId) (aS : Nat) (b : Nat → Nat) (st n td nd nh pl : Nat) (bs : Int32) (kd ag bo pa dm dn hh hn pg sv : Nat → Int32) (sd : Int64) (ik : Int32) (ks ktd knd knh : Nat) (kbs : Int32) (kag kbo kpa kdm kdn khh khn : Nat → Int32) (hf : Int64) (w : Int32) (hn6 : n ≤ 6) (qnd : nd ≤ 6) (qt : td ≤ 30) : Met l yX3_count (mw yX3_count cX3_count 2 (some .int)) rm_X3_count (RP D cI cB aS (MW cI cB b st n td nd nh pl bs kd ag bo pa dm dn hh hn pg sv sd ik ks ktd knd knh kbs kag kbo kpa kdm kdn khh khn hf) [.ref (b 0), .int w]) (vp_Si (fun r => r = (cntF n td bs kd ag dm dn nd nh pl st w))) 0 0 (fun _ => False) := by
  refine met_of (by decide) (Nat.le_of_ble_eq_true rfl) ?_
  intro p e s m below meth c ls hx hb hr hml hown hg hlocks hin hK hP hl
  have hown : s.vm.findClass RX3 = some m.cls := hown
  have hl : lv_has ls 2 [(0, .ref (b 0)), (1, .int w)] := hl
  refine lv_aload_n hx hb dX3_count_0 rfl (lv_at hl 0 rfl) ?_
  refine lv_iload_n hx hb dX3_count_1 rfl (lv_at hl 1 rfl) ?_
  refine rdV (As := [.int w]) (rest := []) hx hb hml hown hg (c_X3_howMany l D cI cB aS _ st n td nd nh pl bs kd ag bo pa dm dn hh hn pg sv sd ik ks ktd knd knh kbs kag kbo kpa kdm kdn khh khn hf w (by first | assumption | omega) (by first | assumption | omega) (by first | assumption | omega)) gm_658 vf_X3_howMany ⟨Nat.le_of_ble_eq_true rfl, Nat.le_of_ble_eq_true rfl⟩ ⟨rfl, rfl⟩ ⟨Nat.zero_le _, Nat.zero_le _⟩ (RP.preV hK hP (q0 := 0) (ci := 3) rfl rfl) rfl hl.1 rfl (Nat.le_of_ble_eq_true rfl) dX3_count_2 ?_
  exact rr_i hx hb hr hlocks dX3_count_5 rfl
abbrev rm_X3_kindBy : Room := { frames := 0, cells := 0, slots := 0, locals := 0 }
set_option maxRecDepth 100000 in
set_option maxHeartbeats 4000000 in
theorem c_X3_kindBy (l : Launch) (D : va_G) (cI cB : ClassId) (aS : Nat) (x : Nat) (qx : x ≤ 126) : Met l yX3_kindBy (mw yX3_kindBy cX3_kindBy 1 (some .int)) rm_X3_kindBy (RP D cI cB aS ([]) [.int (nI x)]) (vp_Si (fun r => r = (kindF x))) 0 0 (fun _ => False) := by
  refine met_of (by decide) (Nat.le_of_ble_eq_true rfl) ?_
  intro p e s m below meth c ls hx hb hr hml hown hg hlocks hin hK hP hl
  have hown : s.vm.findClass RX3 = some m.cls := hown
  have hl : lv_has ls 1 [(0, .int (nI x))] := hl
  refine lv_iload_n hx hb dX3_kindBy_0 rfl (lv_at hl 0 rfl) ?_
  by_cases c_1_98 : x = 98
  · refine lv_lookup (off := 59) (tgt := 60) hx hb dX3_kindBy_1 (by decide) (by rw [c_1_98]; decide) (by decide) ?_
    refine lv_iconst (v := (nI 4)) hx hb dX3_kindBy_60 (by decide) ?_
    exact rr_i hx hb hr hlocks dX3_kindBy_61 (by rw [c_1_98]; rfl)
  by_cases c_1_99 : x = 99
  · refine lv_lookup (off := 57) (tgt := 58) hx hb dX3_kindBy_1 (by decide) (by rw [c_1_99]; decide) (by decide) ?_
    refine lv_iconst (v := (nI 3)) hx hb dX3_kindBy_58 (by decide) ?_
    exact rr_i hx hb hr hlocks dX3_kindBy_59 (by rw [c_1_99]; rfl)
  by_cases c_1_104 : x = 104
  · refine lv_lookup (off := 51) (tgt := 52) hx hb dX3_kindBy_1 (by decide) (by rw [c_1_104]; decide) (by decide) ?_
    refine lv_iconst (v := (nI 0)) hx hb dX3_kindBy_52 (by decide) ?_
    exact rr_i hx hb hr hlocks dX3_kindBy_53 (by rw [c_1_104]; rfl)
  by_cases c_1_109 : x = 109
  · refine lv_lookup (off := 55) (tgt := 56) hx hb dX3_kindBy_1 (by decide) (by rw [c_1_109]; decide) (by decide) ?_
    refine lv_iconst (v := (nI 2)) hx hb dX3_kindBy_56 (by decide) ?_
    exact rr_i hx hb hr hlocks dX3_kindBy_57 (by rw [c_1_109]; rfl)
  by_cases c_1_116 : x = 116
  · refine lv_lookup (off := 53) (tgt := 54) hx hb dX3_kindBy_1 (by decide) (by rw [c_1_116]; decide) (by decide) ?_
    refine lv_iconst (v := (nI 1)) hx hb dX3_kindBy_54 (by decide) ?_
    exact rr_i hx hb hr hlocks dX3_kindBy_55 (by rw [c_1_116]; rfl)
  have q_1_98 : ¬ nI x = nI 98 := fun h => c_1_98 ((nI_eq (by omega) (by omega)).mp h)
  have q_1_99 : ¬ nI x = nI 99 := fun h => c_1_99 ((nI_eq (by omega) (by omega)).mp h)
  have q_1_104 : ¬ nI x = nI 104 := fun h => c_1_104 ((nI_eq (by omega) (by omega)).mp h)
  have q_1_109 : ¬ nI x = nI 109 := fun h => c_1_109 ((nI_eq (by omega) (by omega)).mp h)
  have q_1_116 : ¬ nI x = nI 116 := fun h => c_1_116 ((nI_eq (by omega) (by omega)).mp h)
  refine lv_lookup (off := 61) (tgt := 62) hx hb dX3_kindBy_1 (by decide) (by show Op.lookupswitch.offset [(98, 59), (99, 57), (104, 51), (109, 55), (116, 53)] 61 _ = 61; rw [lv_osw (a := 98) (q_1_98) (by decide), lv_osw (a := 99) (q_1_99) (by decide), lv_osw (a := 104) (q_1_104) (by decide), lv_osw (a := 109) (q_1_109) (by decide), lv_osw (a := 116) (q_1_116) (by decide)]; rfl) (by decide) ?_
  refine lv_iconst (v := (-1)) hx hb dX3_kindBy_62 (by decide) ?_
  exact rr_i hx hb hr hlocks dX3_kindBy_63 (by unfold kindF; rw [if_neg c_1_104, if_neg c_1_116, if_neg c_1_109, if_neg c_1_99, if_neg c_1_98])
abbrev rm_X3_isGood : Room := { frames := 1, cells := 0, slots := 0, locals := 22 }
theorem sf_X3_kindBy : sfacts RX3 yX3_kindBy cX3_kindBy 1 (some .int) 1 := ⟨⟨rfl, by decide +kernel, by decide +kernel, by decide +kernel⟩, gm_487, gm_5, gm_488⟩
set_option maxRecDepth 100000 in
set_option maxHeartbeats 4000000 in
theorem c_X3_isGood (l : Launch) (D : va_G) (cI cB : ClassId) (aS : Nat) (b : Nat → Nat) (st n td nd nh pl : Nat) (bs : Int32) (kd ag bo pa dm dn hh hn pg sv : Nat → Int32) (sd : Int64) (ik : Int32) (ks ktd knd knh : Nat) (kbs : Int32) (kag kbo kpa kdm kdn khh khn : Nat → Int32) (hf : Int64) (k : Nat) (qk : k < pl) (qpl : pl ≤ 19) (qpg : pgOK pg pl) : Met l yX3_isGood (mw yX3_isGood cX3_isGood 3 (some .boolean)) rm_X3_isGood (RP D cI cB aS (MW cI cB b st n td nd nh pl bs kd ag bo pa dm dn hh hn pg sv sd ik ks ktd knd knh kbs kag kbo kpa kdm kdn khh khn hf) [.ref (b 0), .int (nI k)]) (vp_Si (fun r => r = (bi (gdM pg k = true)))) 0 0 (fun _ => False) := by
  refine met_of (by decide) (Nat.le_of_ble_eq_true rfl) ?_
  intro p e s m below meth c ls hx hb hr hml hown hg hlocks hin hK hP hl
  have hown : s.vm.findClass RX3 = some m.cls := hown
  have hl : lv_has ls 3 [(0, .ref (b 0)), (1, .int (nI k))] := hl
  obtain ⟨w1, w2, w3⟩ := qpg k qk
  refine lv_aload_n hx hb dX3_isGood_0 rfl (lv_at hl 0 rfl) ?_
  refine va_get (D := D) (ci := 3) (v := .ref (b 9)) (C := RX3) (T := TX3) (N := 32) hx hb hg us_X3 hown hK.1 hP 0 rfl rfl 15 (by decide) (hg _ gm_416) (fun _ h9 => h9) rfl dX3_isGood_1 ?_
  refine lv_iload_n hx hb dX3_isGood_4 rfl (lv_at hl 1 rfl) ?_
  refine nv_bald hx hb hK.1 hP 9 1 rfl rfl (by omega) (by decide) dX3_isGood_5 ?_
  rw [show ((pg k) : Int32) = (nI ((pg k).toNatClampNeg)) from w1]
  refine lv_istore_n (lv' := [(2, .int (nI ((pg k).toNatClampNeg))), (0, .ref (b 0)), (1, .int (nI k))]) hx hb dX3_isGood_6 rfl hl (by decide) rfl (fun ls hl => ?_)
  refine lv_iload_n hx hb dX3_isGood_7 rfl (lv_at hl 2 rfl) ?_
  refine lv_iconst (v := (nI 3)) hx hb dX3_isGood_8 (by decide) ?_
  refine nv_irem hx hb dX3_isGood_9 (by omega) (by omega) (by omega) ?_
  by_cases c_10_0 : k % 3 = 0
  · refine lv_lookup (off := 26) (tgt := 36) hx hb dX3_isGood_10 (by decide) (by rw [c_10_0]; decide) (by decide) ?_
    refine lv_iload_n hx hb dX3_isGood_36 rfl (lv_at hl 0 rfl) ?_
    refine rdS (As := [.int (nI ((pg k).toNatClampNeg))]) (rest := []) hx hb hml hown hg (c_X3_kindBy l D cI cB aS ((pg k).toNatClampNeg) (by first | assumption | omega)) gm_486 sf_X3_kindBy ⟨Nat.le_of_ble_eq_true rfl, Nat.le_of_ble_eq_true rfl⟩ ⟨rfl, rfl⟩ ⟨Nat.zero_le _, Nat.zero_le _⟩ (RP.preS hK (fun k q h => by simp at h)) rfl hl.1 rfl (Nat.le_of_ble_eq_true rfl) dX3_isGood_37 ?_
    refine lv_iconst (v := (-1)) hx hb dX3_isGood_40 (by decide) ?_
    refine lv_icmp_eq (tgt := 48) hx hb dX3_isGood_41 (by decide) (fun c_41 => ?_) (fun c_41 => ?_)
    · skip
      refine lv_iconst (v := (nI 0)) hx hb dX3_isGood_48 (by decide) ?_
      exact rr_z hx hb hr hlocks dX3_isGood_49 bi_nar (ret_f (fun q => by rw [gdM_0 c_10_0, decide_eq_true c_41] at q; exact absurd q (by decide)))
    · skip
      refine lv_iconst (v := (nI 1)) hx hb dX3_isGood_44 (by decide) ?_
      refine lv_goto (tgt := 49) hx hb dX3_isGood_45 (by decide) ?_
      exact rr_z hx hb hr hlocks dX3_isGood_49 bi_nar (ret_t (by rw [gdM_0 c_10_0, decide_eq_false c_41]; rfl))
  by_cases c_10_1 : k % 3 = 1
  · refine lv_lookup (off := 40) (tgt := 50) hx hb dX3_isGood_10 (by decide) (by rw [c_10_1]; decide) (by decide) ?_
    refine lv_iload_n hx hb dX3_isGood_50 rfl (lv_at hl 0 rfl) ?_
    refine lv_bipush (v := (nI 48)) hx hb dX3_isGood_51 (by decide) ?_
    refine lv_isub hx hb dX3_isGood_53 ?_
    refine lv_iconst (v := (nI 0)) hx hb dX3_isGood_54 (by decide) ?_
    refine lv_bipush (v := (nI 9)) hx hb dX3_isGood_55 (by decide) ?_
    refine rdS (As := [.int ((nI ((pg k).toNatClampNeg)) - (nI 48)), .int (nI 0), .int (nI 9)]) (rest := []) hx hb hml hown hg (c_X3_within l D cI cB aS ((nI ((pg k).toNatClampNeg)) - (nI 48)) (nI 0) (nI 9)) gm_469 sf_X3_within ⟨Nat.le_of_ble_eq_true rfl, Nat.le_of_ble_eq_true rfl⟩ ⟨rfl, rfl⟩ ⟨Nat.zero_le _, Nat.zero_le _⟩ (RP.preS hK (fun k q h => by simp at h)) rfl hl.1 rfl (Nat.le_of_ble_eq_true rfl) dX3_isGood_57 ?_
    exact rr_z hx hb hr hlocks dX3_isGood_60 bi_nar (bi_c ((dg_iff w3).trans (by rw [gdM_1 c_10_1]; exact decide_eq_true_iff.symm)))
  have q_10_0 : ¬ nI (k % 3) = nI 0 := fun h => c_10_0 ((nI_eq (by omega) (by omega)).mp h)
  have q_10_1 : ¬ nI (k % 3) = nI 1 := fun h => c_10_1 ((nI_eq (by omega) (by omega)).mp h)
  refine lv_lookup (off := 51) (tgt := 61) hx hb dX3_isGood_10 (by decide) (by show Op.lookupswitch.offset [(0, 26), (1, 40)] 51 _ = 51; rw [lv_osw (a := 0) (q_10_0) (by decide), lv_osw (a := 1) (q_10_1) (by decide)]; rfl) (by decide) ?_
  refine lv_iload_n hx hb dX3_isGood_61 rfl (lv_at hl 0 rfl) ?_
  refine lv_bipush (v := (nI 44)) hx hb dX3_isGood_62 (by decide) ?_
  refine nv_icmp_ne (tgt := 77) hx hb dX3_isGood_64 (by omega) (by omega) (by decide) (fun c_64 => ?_) (fun c_64 => ?_)
  · skip
    refine lv_iconst (v := (nI 0)) hx hb dX3_isGood_77 (by decide) ?_
    exact rr_z hx hb hr hlocks dX3_isGood_78 bi_nar (ret_f (fun q => by rw [gdM_2 c_10_0 c_10_1] at q; exact c_64 (of_decide_eq_true q).1))
  · skip
    refine lv_iload_n hx hb dX3_isGood_67 rfl (lv_at hl 2 rfl) ?_
    refine lv_bipush (v := (nI 17)) hx hb dX3_isGood_68 (by decide) ?_
    refine nv_icmp_ge (tgt := 77) hx hb dX3_isGood_70 (by omega) (by omega) (by decide) (fun c_70 => ?_) (fun c_70 => ?_)
    · skip
      refine lv_iconst (v := (nI 0)) hx hb dX3_isGood_77 (by decide) ?_
      exact rr_z hx hb hr hlocks dX3_isGood_78 bi_nar (ret_f (fun q => by rw [gdM_2 c_10_0 c_10_1] at q; exact absurd (of_decide_eq_true q).2 (by omega)))
    · skip
      refine lv_iconst (v := (nI 1)) hx hb dX3_isGood_73 (by decide) ?_
      refine lv_goto (tgt := 78) hx hb dX3_isGood_74 (by decide) ?_
      exact rr_z hx hb hr hlocks dX3_isGood_78 bi_nar (ret_t (by rw [gdM_2 c_10_0 c_10_1]; exact decide_eq_true ⟨by omega, c_70⟩))
abbrev rm_X3_faultNow : Room := { frames := 2, cells := 0, slots := 0, locals := 44 }
theorem vf_X3_isGood : vfacts RX3 yX3_isGood cX3_isGood 3 (some .boolean) 1 := ⟨⟨rfl, by decide +kernel, by decide +kernel, by decide +kernel⟩, gm_484, gm_708, gm_5, gm_485⟩
set_option maxRecDepth 100000 in
set_option maxHeartbeats 4000000 in
theorem c_X3_faultNow (l : Launch) (D : va_G) (cI cB : ClassId) (aS : Nat) (b : Nat → Nat) (st n td nd nh pl : Nat) (bs : Int32) (kd ag bo pa dm dn hh hn pg sv : Nat → Int32) (sd : Int64) (ik : Int32) (ks ktd knd knh : Nat) (kbs : Int32) (kag kbo kpa kdm kdn khh khn : Nat → Int32) (hf : Int64)  (qpl : pl ≤ 19) (qpg : pgOK pg pl) : Met l yX3_faultNow (mw yX3_faultNow cX3_faultNow 2 (some .int)) rm_X3_faultNow (RP D cI cB aS (MW cI cB b st n td nd nh pl bs kd ag bo pa dm dn hh hn pg sv sd ik ks ktd knd knh kbs kag kbo kpa kdm kdn khh khn hf) [.ref (b 0)]) (vp_Si (fun r => r = (nI (ftF pg pl)))) 0 0 (fun _ => False) := by
  refine met_of (by decide) (Nat.le_of_ble_eq_true rfl) ?_
  intro p e s m below meth c ls hx hb hr hml hown hg hlocks hin hK hP hl
  have hown : s.vm.findClass RX3 = some m.cls := hown
  have hl : lv_has ls 2 [(0, .ref (b 0))] := hl
  refine lv_iconst (v := (nI 0)) hx hb dX3_faultNow_0 (by decide) ?_
  refine lv_istore_n (lv' := [(1, .int (nI 0)), (0, .ref (b 0))]) hx hb dX3_faultNow_1 rfl hl (by decide) rfl (fun ls hl => ?_)
  -- loop at 2
  refine loopR (nL := 2) (B := pl) (I := fun i => ∀ j, j < i → gdM pg j = true) (lv := fun i => [(0, .ref (b 0)), (1, .int (nI i))]) 0 (Nat.zero_le _) (fun j h => by omega) (lv_sub hl [1, 0] rfl) (fun i ls hj hI hl ih => ?_)
  have hl : lv_has ls 2 [(0, .ref (b 0)), (1, .int (nI i))] := hl
  have hI : ∀ j, j < i → gdM pg j = true := hI
  have ih_2 := ih
  refine lv_iload_n hx hb dX3_faultNow_2 rfl (lv_at hl 1 rfl) ?_
  refine lv_aload_n hx hb dX3_faultNow_3 rfl (lv_at hl 0 rfl) ?_
  refine va_get (D := D) (ci := 3) (v := .int (nI pl)) (C := RX3) (T := TX3) (N := 32) hx hb hg us_X3 hown hK.1 hP 0 rfl rfl 14 (by decide) (hg _ gm_415) (fun _ h9 => h9) rfl dX3_faultNow_4 ?_
  refine nv_icmp_ge (tgt := 24) hx hb dX3_faultNow_7 (by omega) (by omega) (by decide) (fun c_7 => ?_) (fun c_7 => ?_)
  · skip
    refine lv_iload_n hx hb dX3_faultNow_24 rfl (lv_at hl 1 rfl) ?_
    exact rr_i hx hb hr hlocks dX3_faultNow_25 (by rw [← fz_gd, fz_all (fun j _ h => hI j (by omega)), Nat.zero_add, show i = pl by omega])
  · skip
    refine lv_aload_n hx hb dX3_faultNow_10 rfl (lv_at hl 0 rfl) ?_
    refine lv_iload_n hx hb dX3_faultNow_11 rfl (lv_at hl 1 rfl) ?_
    refine rdV (As := [.int (nI i)]) (rest := []) hx hb hml hown hg (c_X3_isGood l D cI cB aS _ st n td nd nh pl bs kd ag bo pa dm dn hh hn pg sv sd ik ks ktd knd knh kbs kag kbo kpa kdm kdn khh khn hf i (by first | assumption | omega) (by first | assumption | omega) (by first | assumption | omega)) gm_483 vf_X3_isGood ⟨Nat.le_of_ble_eq_true rfl, Nat.le_of_ble_eq_true rfl⟩ ⟨rfl, rfl⟩ ⟨Nat.zero_le _, Nat.zero_le _⟩ (RP.preV hK hP (q0 := 0) (ci := 3) rfl rfl) rfl hl.1 rfl (Nat.le_of_ble_eq_true rfl) dX3_faultNow_12 ?_
    refine bv_if_eq (tgt := 24) hx hb dX3_faultNow_15 (by decide) (fun c_15 => ?_) (fun c_15 => ?_)
    · skip
      refine lv_iload_n hx hb dX3_faultNow_24 rfl (lv_at hl 1 rfl) ?_
      exact rr_i hx hb hr hlocks dX3_faultNow_25 (by rw [← fz_gd, fz_go (k := i) (by omega) (by omega) (fun j _ h => hI j h) (Bool.eq_false_iff.mpr c_15)])
    · skip
      refine lv_iinc (v := (nI (i + 1))) (lv' := [(1, .int (nI (i + 1))), (0, .ref (b 0))]) hx hb dX3_faultNow_18 hl (k := 1) rfl (nI_i1 _) (by decide) rfl (fun ls hl => ?_)
      refine lv_goto (tgt := 2) hx hb dX3_faultNow_21 (by decide) ?_
      exact ih_2 _ (by omega) (fun j h => by rcases Nat.lt_succ_iff_lt_or_eq.mp h with h | h; exact hI j h; rw [h]; exact c_15) (lv_sub hl [1, 0] rfl)
abbrev rm_X3_fault : Room := { frames := 3, cells := 0, slots := 0, locals := 65 }
theorem vf_X3_faultNow : vfacts RX3 yX3_faultNow cX3_faultNow 2 (some .int) 0 := ⟨⟨rfl, by decide +kernel, by decide +kernel, by decide +kernel⟩, gm_481, gm_707, gm_5, gm_482⟩
set_option maxRecDepth 100000 in
set_option maxHeartbeats 4000000 in
theorem c_X3_fault (l : Launch) (D : va_G) (cI cB : ClassId) (aS : Nat) (b : Nat → Nat) (st n td nd nh pl : Nat) (bs : Int32) (kd ag bo pa dm dn hh hn pg sv : Nat → Int32) (sd : Int64) (ik : Int32) (ks ktd knd knh : Nat) (kbs : Int32) (kag kbo kpa kdm kdn khh khn : Nat → Int32) (hf : Int64)  (qpl : pl ≤ 19) (qpg : pgOK pg pl) : Met l yX3_fault (mw yX3_fault cX3_fault 1 (some .int)) rm_X3_fault (RP D cI cB aS (MW cI cB b st n td nd nh pl bs kd ag bo pa dm dn hh hn pg sv sd ik ks ktd knd knh kbs kag kbo kpa kdm kdn khh khn hf) [.ref (b 0)]) (vp_Si (fun r => r = (nI (ftF pg pl)))) 0 0 (fun _ => False) := by
  refine met_of (by decide) (Nat.le_of_ble_eq_true rfl) ?_
  intro p e s m below meth c ls hx hb hr hml hown hg hlocks hin hK hP hl
  have hown : s.vm.findClass RX3 = some m.cls := hown
  have hl : lv_has ls 1 [(0, .ref (b 0))] := hl
  refine lv_aload_n hx hb dX3_fault_0 rfl (lv_at hl 0 rfl) ?_
  refine rdV (As := []) (rest := []) hx hb hml hown hg (c_X3_faultNow l D cI cB aS _ st n td nd nh pl bs kd ag bo pa dm dn hh hn pg sv sd ik ks ktd knd knh kbs kag kbo kpa kdm kdn khh khn hf (by first | assumption | omega) (by first | assumption | omega)) gm_480 vf_X3_faultNow ⟨Nat.le_of_ble_eq_true rfl, Nat.le_of_ble_eq_true rfl⟩ ⟨rfl, rfl⟩ ⟨Nat.zero_le _, Nat.zero_le _⟩ (RP.preV hK hP (q0 := 0) (ci := 3) rfl rfl) rfl hl.1 rfl (Nat.le_of_ble_eq_true rfl) dX3_fault_1 ?_
  exact rr_i hx hb hr hlocks dX3_fault_4 rfl
abbrev rm_X3_size : Room := { frames := 0, cells := 0, slots := 0, locals := 0 }
set_option maxRecDepth 100000 in
set_option maxHeartbeats 4000000 in
theorem c_X3_size (l : Launch) (D : va_G) (cI cB : ClassId) (aS : Nat) (set : Nat) (q1 : set < 64) : Met l yX3_size (mw yX3_size cX3_size 3 (some .int)) rm_X3_size (RP D cI cB aS ([]) [.int (nI set)]) (vp_Si (fun r => r = (nI (popF set)))) 0 0 (fun _ => False) := by
  refine met_of (by decide) (Nat.le_of_ble_eq_true rfl) ?_
  intro p e s m below meth c ls hx hb hr hml hown hg hlocks hin hK hP hl
  have hown : s.vm.findClass RX3 = some m.cls := hown
  have hl : lv_has ls 3 [(0, .int (nI set))] := hl
  refine lv_iconst (v := (nI 0)) hx hb dX3_size_0 (by decide) ?_
  refine lv_istore_n (lv' := [(1, .int (nI 0)), (0, .int (nI set))]) hx hb dX3_size_1 rfl hl (by decide) rfl (fun ls hl => ?_)
  refine lv_iconst (v := (nI 0)) hx hb dX3_size_2 (by decide) ?_
  refine lv_istore_n (lv' := [(2, .int (nI 0)), (1, .int (nI 0)), (0, .int (nI set))]) hx hb dX3_size_3 rfl hl (by decide) rfl (fun ls hl => ?_)
  -- loop at 4
  refine loopR (nL := 3) (B := 6) (I := fun i => True) (lv := fun i => [(0, .int (nI set)), (1, .int (nI (cn (fun k => set.testBit k) i))), (2, .int (nI i))]) 0 (Nat.zero_le _) (trivial) (by show lv_has ls 3 [(0, .int (nI set)), (1, .int (nI (cn (fun k => set.testBit k) 0))), (2, .int (nI 0))]; exact lv_sub hl [2, 1, 0] rfl) (fun i ls hj hI hl ih => ?_)
  have hl : lv_has ls 3 [(0, .int (nI set)), (1, .int (nI (cn (fun k => set.testBit k) i))), (2, .int (nI i))] := hl
  have ih_4 := ih
  refine lv_iload_n hx hb dX3_size_4 rfl (lv_at hl 2 rfl) ?_
  refine lv_bipush (v := (nI 6)) hx hb dX3_size_5 (by decide) ?_
  refine nv_icmp_ge (tgt := 24) hx hb dX3_size_7 (by omega) (by omega) (by decide) (fun c_7 => ?_) (fun c_7 => ?_)
  · skip
    refine lv_iload_n hx hb dX3_size_24 rfl (lv_at hl 1 rfl) ?_
    exact rr_i hx hb hr hlocks dX3_size_25 (by rw [show i = 6 by omega]; rfl)
  · skip
    refine lv_iload_n hx hb dX3_size_10 rfl (lv_at hl 1 rfl) ?_
    refine lv_iload_n hx hb dX3_size_11 rfl (lv_at hl 0 rfl) ?_
    refine lv_iload_n hx hb dX3_size_12 rfl (lv_at hl 2 rfl) ?_
    refine lv_ishr hx hb dX3_size_13 ?_
    refine lv_iconst (v := (nI 1)) hx hb dX3_size_14 (by decide) ?_
    refine lv_iand hx hb dX3_size_15 ?_
    rw [show ((((nI set) >>> ((nI i) &&& 31)) &&& (nI 1)) : Int32) = (nI (if set.testBit i = true then 1 else 0)) from bit_n set q1 i (by omega)]
    refine nv_iadd hx hb dX3_size_16 ?_
    refine lv_istore_n (lv' := [(1, .int (nI (cn (fun k => set.testBit k) i + (if set.testBit i = true then 1 else 0)))), (0, .int (nI set)), (2, .int (nI i))]) hx hb dX3_size_17 rfl hl (by decide) rfl (fun ls hl => ?_)
    refine lv_iinc (v := (nI (i + 1))) (lv' := [(2, .int (nI (i + 1))), (1, .int (nI (cn (fun k => set.testBit k) i + (if set.testBit i = true then 1 else 0)))), (0, .int (nI set))]) hx hb dX3_size_18 hl (k := 2) rfl (nI_i1 _) (by decide) rfl (fun ls hl => ?_)
    refine lv_goto (tgt := 4) hx hb dX3_size_21 (by decide) ?_
    exact ih_4 _ (by omega) (trivial) (by show lv_has ls 3 [(0, .int (nI set)), (1, .int (nI (cn (fun k => set.testBit k) (i + 1)))), (2, .int (nI (i + 1)))]; rw [show (cn (fun k => set.testBit k) (i + 1)) = cn (fun k => set.testBit k) i + (if set.testBit i = true then 1 else 0) from rfl]; exact lv_sub hl [2, 1, 0] rfl)
end
section
abbrev rm_X3_blank : Room := { frames := 0, cells := 0, slots := 0, locals := 0 }
set_option maxRecDepth 100000 in
set_option maxHeartbeats 4000000 in
theorem c_X3_blank (l : Launch) (D : va_G) (cI cB : ClassId) (aS : Nat) (b : Nat → Nat) (st n td nd nh pl : Nat) (bs : Int32) (kd ag bo pa dm dn hh hn pg sv : Nat → Int32) (sd : Int64) (ik : Int32) (ks ktd knd knh : Nat) (kbs : Int32) (kag kbo kpa kdm kdn khh khn : Nat → Int32) (hf : Int64)  (hD0 : va_D (fun _ => True) (MW cI cB b st n td nd nh pl bs kd ag bo pa dm dn hh hn pg sv sd ik ks ktd knd knh kbs kag kbo kpa kdm kdn khh khn hf)) : Met l yX3_blank (mw yX3_blank cX3_blank 2 (some .int)) rm_X3_blank (RP D cI cB aS (MW cI cB b st n td nd nh pl bs kd ag bo pa dm dn hh hn pg sv sd ik ks ktd knd knh kbs kag kbo kpa kdm kdn khh khn hf) [.ref (b 0)]) (wq mkI (MW cI cB b st n td nd nh pl bs kd ag bo pa dm dn hh hn pg sv sd ik ks ktd knd knh kbs kag kbo kpa kdm kdn khh khn hf) (fun (_ : Unit) => MW cI cB b st n td nd nh 0 bs kd ag bo pa dm dn hh hn pg sv sd ik ks ktd knd knh kbs kag kbo kpa kdm kdn khh khn hf) D (fun (r : Int32) (_ : Unit) => r = (nI pl))) 0 0 (inW (MW cI cB b st n td nd nh pl bs kd ag bo pa dm dn hh hn pg sv sd ik ks ktd knd knh kbs kag kbo kpa kdm kdn khh khn hf)) := by
  refine met_of (by decide) (Nat.le_of_ble_eq_true rfl) ?_
  intro p e s m below meth c ls hx hb hr hml hown hg hlocks hin hK hP hl
  have hown : s.vm.findClass RX3 = some m.cls := hown
  have hl : lv_has ls 2 [(0, .ref (b 0))] := hl
  have hD := hD0.here
  have hS0 : va_S (inW (MW cI cB b st n td nd nh pl bs kd ag bo pa dm dn hh hn pg sv sd ik ks ktd knd knh kbs kag kbo kpa kdm kdn khh khn hf)) s.heap s.heap [] := va_S.rf
  obtain ⟨H, hH⟩ : ∃ H, H = s.heap := ⟨_, rfl⟩
  have hS : va_S (inW (MW cI cB b st n td nd nh pl bs kd ag bo pa dm dn hh hn pg sv sd ik ks ktd knd knh kbs kag kbo kpa kdm kdn khh khn hf)) s.heap H [] := by rw [hH]; exact hS0
  clear hS0
  rw [← hH] at hP ⊢
  generalize hAe : inW (MW cI cB b st n td nd nh pl bs kd ag bo pa dm dn hh hn pg sv sd ik ks ktd knd knh kbs kag kbo kpa kdm kdn khh khn hf) = A at hD hS ⊢
  refine lv_aload_n hx hb dX3_blank_0 rfl (lv_at hl 0 rfl) ?_
  refine va_get (D := D) (ci := 3) (v := .int (nI pl)) (C := RX3) (T := TX3) (N := 32) hx hb hg us_X3 hown hK.1 hP 0 rfl rfl 14 (by decide) (hg _ gm_415) (fun _ h9 => h9) rfl dX3_blank_1 ?_
  refine lv_istore_n (lv' := [(1, .int (nI pl)), (0, .ref (b 0))]) hx hb dX3_blank_4 rfl hl (by decide) rfl (fun ls hl => ?_)
  refine lv_aload_n hx hb dX3_blank_5 rfl (lv_at hl 1 rfl) ?_
  refine lv_iconst (v := (nI 0)) hx hb dX3_blank_6 (by decide) ?_
  refine va_put (D := D) (ci := 3) (v := .int (nI 0)) (ty := .int) (C := RX3) (T := TX3) (N := 32) hx hb hg us_X3 tyX3 tyX3_ok nmX3 hown hK.1 hP hD hS 0 rfl rfl 14 (by decide) (hg _ gm_415) (fun _ h9 => h9) rfl (by decide +kernel) rfl rfl (Nat.le_of_ble_eq_true rfl) dX3_blank_7 (fun H locs hP hD hS => ?_)
  have hP : va_P D vwCl (MW cI cB b st n td nd nh 0 bs kd ag bo pa dm dn hh hn pg sv sd ik ks ktd knd knh kbs kag kbo kpa kdm kdn khh khn hf) H := hP
  have hD : va_D A (MW cI cB b st n td nd nh 0 bs kd ag bo pa dm dn hh hn pg sv sd ik ks ktd knd knh kbs kag kbo kpa kdm kdn khh khn hf) := hD
  refine lv_iload_n hx hb dX3_blank_10 rfl (lv_at hl 0 rfl) ?_
  subst hAe
  exact wr_i (w1 := fun (_ : Unit) => MW cI cB b st n td nd nh 0 bs kd ag bo pa dm dn hh hn pg sv sd ik ks ktd knd knh kbs kag kbo kpa kdm kdn khh khn hf) hx hb hr hlocks hS () hP dX3_blank_11 rfl
abbrev rm_X3_forget : Room := { frames := 0, cells := 0, slots := 0, locals := 0 }
set_option maxRecDepth 100000 in
set_option maxHeartbeats 4000000 in
theorem c_X3_forget (l : Launch) (D : va_G) (cI cB : ClassId) (aS : Nat) (b : Nat → Nat) (st n td nd nh pl : Nat) (bs : Int32) (kd ag bo pa dm dn hh hn pg sv : Nat → Int32) (sd : Int64) (ik : Int32) (ks ktd knd knh : Nat) (kbs : Int32) (kag kbo kpa kdm kdn khh khn : Nat → Int32) (hf : Int64)  (hD0 : va_D (fun _ => True) (MW cI cB b st n td nd nh pl bs kd ag bo pa dm dn hh hn pg sv sd ik ks ktd knd knh kbs kag kbo kpa kdm kdn khh khn hf)) : Met l yX3_forget (mw yX3_forget cX3_forget 2 (some .int)) rm_X3_forget (RP D cI cB aS (MW cI cB b st n td nd nh pl bs kd ag bo pa dm dn hh hn pg sv sd ik ks ktd knd knh kbs kag kbo kpa kdm kdn khh khn hf) [.ref (b 0)]) (wq mkI (MW cI cB b st n td nd nh pl bs kd ag bo pa dm dn hh hn pg sv sd ik ks ktd knd knh kbs kag kbo kpa kdm kdn khh khn hf) (fun (_ : Unit) => MW cI cB b st n td nd 0 pl bs kd ag bo pa dm dn hh hn pg sv sd ik ks ktd knd knh kbs kag kbo kpa kdm kdn khh khn hf) D (fun (r : Int32) (_ : Unit) => r = (nI nh))) 0 0 (inW (MW cI cB b st n td nd nh pl bs kd ag bo pa dm dn hh hn pg sv sd ik ks ktd knd knh kbs kag kbo kpa kdm kdn khh khn hf)) := by
  refine met_of (by decide) (Nat.le_of_ble_eq_true rfl) ?_
  intro p e s m below meth c ls hx hb hr hml hown hg hlocks hin hK hP hl
  have hown : s.vm.findClass RX3 = some m.cls := hown
  have hl : lv_has ls 2 [(0, .ref (b 0))] := hl
  have hD := hD0.here
  have hS0 : va_S (inW (MW cI cB b st n td nd nh pl bs kd ag bo pa dm dn hh hn pg sv sd ik ks ktd knd knh kbs kag kbo kpa kdm kdn khh khn hf)) s.heap s.heap [] := va_S.rf
  obtain ⟨H, hH⟩ : ∃ H, H = s.heap := ⟨_, rfl⟩
  have hS : va_S (inW (MW cI cB b st n td nd nh pl bs kd ag bo pa dm dn hh hn pg sv sd ik ks ktd knd knh kbs kag kbo kpa kdm kdn khh khn hf)) s.heap H [] := by rw [hH]; exact hS0
  clear hS0
  rw [← hH] at hP ⊢
  generalize hAe : inW (MW cI cB b st n td nd nh pl bs kd ag bo pa dm dn hh hn pg sv sd ik ks ktd knd knh kbs kag kbo kpa kdm kdn khh khn hf) = A at hD hS ⊢
  refine lv_aload_n hx hb dX3_forget_0 rfl (lv_at hl 0 rfl) ?_
  refine va_get (D := D) (ci := 3) (v := .int (nI nh)) (C := RX3) (T := TX3) (N := 32) hx hb hg us_X3 hown hK.1 hP 0 rfl rfl 11 (by decide) (hg _ gm_412) (fun _ h9 => h9) rfl dX3_forget_1 ?_
  refine lv_istore_n (lv' := [(1, .int (nI nh)), (0, .ref (b 0))]) hx hb dX3_forget_4 rfl hl (by decide) rfl (fun ls hl => ?_)
  refine lv_aload_n hx hb dX3_forget_5 rfl (lv_at hl 1 rfl) ?_
  refine lv_iconst (v := (nI 0)) hx hb dX3_forget_6 (by decide) ?_
  refine va_put (D := D) (ci := 3) (v := .int (nI 0)) (ty := .int) (C := RX3) (T := TX3) (N := 32) hx hb hg us_X3 tyX3 tyX3_ok nmX3 hown hK.1 hP hD hS 0 rfl rfl 11 (by decide) (hg _ gm_412) (fun _ h9 => h9) rfl (by decide +kernel) rfl rfl (Nat.le_of_ble_eq_true rfl) dX3_forget_7 (fun H locs hP hD hS => ?_)
  have hP : va_P D vwCl (MW cI cB b st n td nd 0 pl bs kd ag bo pa dm dn hh hn pg sv sd ik ks ktd knd knh kbs kag kbo kpa kdm kdn khh khn hf) H := hP
  have hD : va_D A (MW cI cB b st n td nd 0 pl bs kd ag bo pa dm dn hh hn pg sv sd ik ks ktd knd knh kbs kag kbo kpa kdm kdn khh khn hf) := hD
  refine lv_iload_n hx hb dX3_forget_10 rfl (lv_at hl 0 rfl) ?_
  subst hAe
  exact wr_i (w1 := fun (_ : Unit) => MW cI cB b st n td nd 0 pl bs kd ag bo pa dm dn hh hn pg sv sd ik ks ktd knd knh kbs kag kbo kpa kdm kdn khh khn hf) hx hb hr hlocks hS () hP dX3_forget_11 rfl
abbrev rm_X3_pay : Room := { frames := 0, cells := 0, slots := 0, locals := 0 }
set_option maxRecDepth 100000 in
set_option maxHeartbeats 4000000 in
theorem c_X3_pay (l : Launch) (D : va_G) (cI cB : ClassId) (aS : Nat) (b : Nat → Nat) (st n td nd nh pl : Nat) (bs : Int32) (kd ag bo pa dm dn hh hn pg sv : Nat → Int32) (sd : Int64) (ik : Int32) (ks ktd knd knh : Nat) (kbs : Int32) (kag kbo kpa kdm kdn khh khn : Nat → Int32) (hf : Int64)  (hD0 : va_D (fun _ => True) (MW cI cB b st n td nd nh pl bs kd ag bo pa dm dn hh hn pg sv sd ik ks ktd knd knh kbs kag kbo kpa kdm kdn khh khn hf)) (qnd : nd ≤ 6) : Met l yX3_pay (mw yX3_pay cX3_pay 3 (some .int)) rm_X3_pay (RP D cI cB aS (MW cI cB b st n td nd nh pl bs kd ag bo pa dm dn hh hn pg sv sd ik ks ktd knd knh kbs kag kbo kpa kdm kdn khh khn hf) [.ref (b 0)]) (wq mkI (MW cI cB b st n td nd nh pl bs kd ag bo pa dm dn hh hn pg sv sd ik ks ktd knd knh kbs kag kbo kpa kdm kdn khh khn hf) (fun (_ : Unit) => MW cI cB b st n td 0 nh pl bs kd ag bo pa dm dn hh hn pg sv sd ik ks ktd knd knh kbs kag kbo kpa kdm kdn khh khn hf) D (fun (r : Int32) (_ : Unit) => r = (sm dm nd))) 0 0 (inW (MW cI cB b st n td nd nh pl bs kd ag bo pa dm dn hh hn pg sv sd ik ks ktd knd knh kbs kag kbo kpa kdm kdn khh khn hf)) := by
  refine met_of (by decide) (Nat.le_of_ble_eq_true rfl) ?_
  intro p e s m below meth c ls hx hb hr hml hown hg hlocks hin hK hP hl
  have hown : s.vm.findClass RX3 = some m.cls := hown
  have hl : lv_has ls 3 [(0, .ref (b 0))] := hl
  have hD := hD0.here
  have hS0 : va_S (inW (MW cI cB b st n td nd nh pl bs kd ag bo pa dm dn hh hn pg sv sd ik ks ktd knd knh kbs kag kbo kpa kdm kdn khh khn hf)) s.heap s.heap [] := va_S.rf
  obtain ⟨H, hH⟩ : ∃ H, H = s.heap := ⟨_, rfl⟩
  have hS : va_S (inW (MW cI cB b st n td nd nh pl bs kd ag bo pa dm dn hh hn pg sv sd ik ks ktd knd knh kbs kag kbo kpa kdm kdn khh khn hf)) s.heap H [] := by rw [hH]; exact hS0
  clear hS0
  rw [← hH] at hP ⊢
  generalize hAe : inW (MW cI cB b st n td nd nh pl bs kd ag bo pa dm dn hh hn pg sv sd ik ks ktd knd knh kbs kag kbo kpa kdm kdn khh khn hf) = A at hD hS ⊢
  refine lv_iconst (v := (nI 0)) hx hb dX3_pay_0 (by decide) ?_
  refine lv_istore_n (lv' := [(1, .int (nI 0)), (0, .ref (b 0))]) hx hb dX3_pay_1 rfl hl (by decide) rfl (fun ls hl => ?_)
  refine lv_iconst (v := (nI 0)) hx hb dX3_pay_2 (by decide) ?_
  refine lv_istore_n (lv' := [(2, .int (nI 0)), (1, .int (nI 0)), (0, .ref (b 0))]) hx hb dX3_pay_3 rfl hl (by decide) rfl (fun ls hl => ?_)
  -- loop at 4
  refine loopW (nL := 3) (S := Unit) (B := nd) (I := fun i u => True) (lv := fun i u => [(0, .ref (b 0)), (1, .int (sm dm i)), (2, .int (nI i))]) (wf := fun i u => MW cI cB b st n td nd nh pl bs kd ag bo pa dm dn hh hn pg sv sd ik ks ktd knd knh kbs kag kbo kpa kdm kdn khh khn hf) 0 () (Nat.zero_le _) (trivial) (by show lv_has ls 3 [(0, .ref (b 0)), (1, .int (sm dm 0)), (2, .int (nI 0))]; exact lv_sub hl [2, 1, 0] rfl) hP (hD.addr rfl) hS (fun i u ls H locs hj hI hl hP hD hS ih => ?_)
  have hP : va_P D vwCl (MW cI cB b st n td nd nh pl bs kd ag bo pa dm dn hh hn pg sv sd ik ks ktd knd knh kbs kag kbo kpa kdm kdn khh khn hf) H := hP
  have hD : va_D A (MW cI cB b st n td nd nh pl bs kd ag bo pa dm dn hh hn pg sv sd ik ks ktd knd knh kbs kag kbo kpa kdm kdn khh khn hf) := hD
  have hl : lv_has ls 3 [(0, .ref (b 0)), (1, .int (sm dm i)), (2, .int (nI i))] := hl
  have ih_4 := ih
  refine lv_iload_n hx hb dX3_pay_4 rfl (lv_at hl 2 rfl) ?_
  refine lv_aload_n hx hb dX3_pay_5 rfl (lv_at hl 0 rfl) ?_
  refine va_get (D := D) (ci := 3) (v := .int (nI nd)) (C := RX3) (T := TX3) (N := 32) hx hb hg us_X3 hown hK.1 hP 0 rfl rfl 8 (by decide) (hg _ gm_409) (fun _ h9 => h9) rfl dX3_pay_6 ?_
  refine nv_icmp_ge (tgt := 27) hx hb dX3_pay_9 (by omega) (by omega) (by decide) (fun c_9 => ?_) (fun c_9 => ?_)
  · skip
    refine lv_aload_n hx hb dX3_pay_27 rfl (lv_at hl 0 rfl) ?_
    refine lv_iconst (v := (nI 0)) hx hb dX3_pay_28 (by decide) ?_
    refine va_put (D := D) (ci := 3) (v := .int (nI 0)) (ty := .int) (C := RX3) (T := TX3) (N := 32) hx hb hg us_X3 tyX3 tyX3_ok nmX3 hown hK.1 hP hD hS 0 rfl rfl 8 (by decide) (hg _ gm_409) (fun _ h9 => h9) rfl (by decide +kernel) rfl rfl (Nat.le_of_ble_eq_true rfl) dX3_pay_29 (fun H locs hP hD hS => ?_)
    have hP : va_P D vwCl (MW cI cB b st n td 0 nh pl bs kd ag bo pa dm dn hh hn pg sv sd ik ks ktd knd knh kbs kag kbo kpa kdm kdn khh khn hf) H := hP
    have hD : va_D A (MW cI cB b st n td 0 nh pl bs kd ag bo pa dm dn hh hn pg sv sd ik ks ktd knd knh kbs kag kbo kpa kdm kdn khh khn hf) := hD
    refine lv_iload_n hx hb dX3_pay_32 rfl (lv_at hl 1 rfl) ?_
    subst hAe
    exact wr_i (w1 := fun (_ : Unit) => MW cI cB b st n td 0 nh pl bs kd ag bo pa dm dn hh hn pg sv sd ik ks ktd knd knh kbs kag kbo kpa kdm kdn khh khn hf) hx hb hr hlocks hS () hP dX3_pay_33 (by rw [show i = nd by omega])
  · skip
    refine lv_iload_n hx hb dX3_pay_12 rfl (lv_at hl 1 rfl) ?_
    refine lv_aload_n hx hb dX3_pay_13 rfl (lv_at hl 0 rfl) ?_
    refine va_get (D := D) (ci := 3) (v := .ref (b 5)) (C := RX3) (T := TX3) (N := 32) hx hb hg us_X3 hown hK.1 hP 0 rfl rfl 9 (by decide) (hg _ gm_410) (fun _ h9 => h9) rfl dX3_pay_14 ?_
    refine lv_iload_n hx hb dX3_pay_17 rfl (lv_at hl 2 rfl) ?_
    refine nv_iald hx hb hK.1 hP 5 0 rfl rfl (by omega) (by decide) dX3_pay_18 ?_
    refine lv_iadd hx hb dX3_pay_19 ?_
    refine lv_istore_n (lv' := [(1, .int ((sm dm i) + (dm i))), (0, .ref (b 0)), (2, .int (nI i))]) hx hb dX3_pay_20 rfl hl (by decide) rfl (fun ls hl => ?_)
    refine lv_iinc (v := (nI (i + 1))) (lv' := [(2, .int (nI (i + 1))), (1, .int ((sm dm i) + (dm i))), (0, .ref (b 0))]) hx hb dX3_pay_21 hl (k := 2) rfl (nI_i1 _) (by decide) rfl (fun ls hl => ?_)
    refine lv_goto (tgt := 4) hx hb dX3_pay_24 (by decide) ?_
    exact ih_4 () _ _ _ (by omega) (trivial) (by show lv_has ls 3 [(0, .ref (b 0)), (1, .int (sm dm (i + 1))), (2, .int (nI (i + 1)))]; rw [show (sm dm (i + 1)) = (sm dm i) + (dm i) from rfl]; exact lv_sub hl [2, 1, 0] rfl) hP (hD.addr rfl) hS
abbrev rm_X3_letter : Room := { frames := 1, cells := 0, slots := 0, locals := 22 }
set_option maxRecDepth 100000 in
set_option maxHeartbeats 4000000 in
theorem c_X3_letter (l : Launch) (D : va_G) (cI cB : ClassId) (aS : Nat) (b : Nat → Nat) (st n td nd nh pl : Nat) (bs : Int32) (kd ag bo pa dm dn hh hn pg sv : Nat → Int32) (sd : Int64) (ik : Int32) (ks ktd knd knh : Nat) (kbs : Int32) (kag kbo kpa kdm kdn khh khn : Nat → Int32) (hf : Int64) (x : Int32) (hD0 : va_D (fun _ => True) (MW cI cB b st n td nd nh pl bs kd ag bo pa dm dn hh hn pg sv sd ik ks ktd knd knh kbs kag kbo kpa kdm kdn khh khn hf)) (qpl : pl ≤ 19) : Met l yX3_letter (mw yX3_letter cX3_letter 2 (some .int)) rm_X3_letter (RP D cI cB aS (MW cI cB b st n td nd nh pl bs kd ag bo pa dm dn hh hn pg sv sd ik ks ktd knd knh kbs kag kbo kpa kdm kdn khh khn hf) [.ref (b 0), .int x]) (wq mkI (MW cI cB b st n td nd nh pl bs kd ag bo pa dm dn hh hn pg sv sd ik ks ktd knd knh kbs kag kbo kpa kdm kdn khh khn hf) (fun (u : (Nat → Int32) × Nat) => MW cI cB b st n td nd nh u.2 bs kd ag bo pa dm dn hh hn u.1 sv sd ik ks ktd knd knh kbs kag kbo kpa kdm kdn khh khn hf) D (fun (r : Int32) (u : (Nat → Int32) × Nat) => (r, u) = letF pg pl x)) 0 0 (inW (MW cI cB b st n td nd nh pl bs kd ag bo pa dm dn hh hn pg sv sd ik ks ktd knd knh kbs kag kbo kpa kdm kdn khh khn hf)) := by
  refine met_of (by decide) (Nat.le_of_ble_eq_true rfl) ?_
  intro p e s m below meth c ls hx hb hr hml hown hg hlocks hin hK hP hl
  have hown : s.vm.findClass RX3 = some m.cls := hown
  have hl : lv_has ls 2 [(0, .ref (b 0)), (1, .int x)] := hl
  have hD := hD0.here
  have hS0 : va_S (inW (MW cI cB b st n td nd nh pl bs kd ag bo pa dm dn hh hn pg sv sd ik ks ktd knd knh kbs kag kbo kpa kdm kdn khh khn hf)) s.heap s.heap [] := va_S.rf
  obtain ⟨H, hH⟩ : ∃ H, H = s.heap := ⟨_, rfl⟩
  have hS : va_S (inW (MW cI cB b st n td nd nh pl bs kd ag bo pa dm dn hh hn pg sv sd ik ks ktd knd knh kbs kag kbo kpa kdm kdn khh khn hf)) s.heap H [] := by rw [hH]; exact hS0
  clear hS0
  rw [← hH] at hP ⊢
  generalize hAe : inW (MW cI cB b st n td nd nh pl bs kd ag bo pa dm dn hh hn pg sv sd ik ks ktd knd knh kbs kag kbo kpa kdm kdn khh khn hf) = A at hD hS ⊢
  refine lv_iload_n hx hb dX3_letter_0 rfl (lv_at hl 1 rfl) ?_
  refine lv_bipush (v := (nI 32)) hx hb dX3_letter_1 (by decide) ?_
  refine lv_bipush (v := (nI 126)) hx hb dX3_letter_3 (by decide) ?_
  refine rdS (As := [.int x, .int (nI 32), .int (nI 126)]) (rest := []) hx hb hml hown hg (c_X3_within l D cI cB aS x (nI 32) (nI 126)) gm_469 sf_X3_within ⟨Nat.le_of_ble_eq_true rfl, Nat.le_of_ble_eq_true rfl⟩ ⟨rfl, rfl⟩ ⟨Nat.zero_le _, Nat.zero_le _⟩ (RP.preS hK (fun k q h => by simp at h)) rfl hl.1 rfl (Nat.le_of_ble_eq_true rfl) dX3_letter_5 ?_
  refine bv_if_ne (tgt := 14) hx hb dX3_letter_8 (by decide) (fun c_8 => ?_) (fun c_8 => ?_)
  · skip
    obtain ⟨x1, q1, q2, ex⟩ := by_of c_8 (by decide) (by decide)
    subst ex
    refine lv_aload_n hx hb dX3_letter_14 rfl (lv_at hl 0 rfl) ?_
    refine va_get (D := D) (ci := 3) (v := .int (nI pl)) (C := RX3) (T := TX3) (N := 32) hx hb hg us_X3 hown hK.1 hP 0 rfl rfl 14 (by decide) (hg _ gm_415) (fun _ h9 => h9) rfl dX3_letter_15 ?_
    refine lv_bipush (v := (nI 19)) hx hb dX3_letter_18 (by decide) ?_
    refine nv_icmp_ne (tgt := 26) hx hb dX3_letter_20 (by omega) (by omega) (by decide) (fun c_20 => ?_) (fun c_20 => ?_)
    · skip
      refine lv_aload_n hx hb dX3_letter_26 rfl (lv_at hl 0 rfl) ?_
      refine va_get (D := D) (ci := 3) (v := .ref (b 9)) (C := RX3) (T := TX3) (N := 32) hx hb hg us_X3 hown hK.1 hP 0 rfl rfl 15 (by decide) (hg _ gm_416) (fun _ h9 => h9) rfl dX3_letter_27 ?_
      refine lv_aload_n hx hb dX3_letter_30 rfl (lv_at hl 0 rfl) ?_
      refine va_get (D := D) (ci := 3) (v := .int (nI pl)) (C := RX3) (T := TX3) (N := 32) hx hb hg us_X3 hown hK.1 hP 0 rfl rfl 14 (by decide) (hg _ gm_415) (fun _ h9 => h9) rfl dX3_letter_31 ?_
      refine lv_iload_n hx hb dX3_letter_34 rfl (lv_at hl 1 rfl) ?_
      refine lv_i2b (v := (nI x1).toInt8.toInt32) hx hb dX3_letter_35 rfl ?_
      refine nv_bast hx hb hK.1 hP hD hS 9 1 rfl rfl (by omega) (by decide) dX3_letter_36 (fun H locs hP hD hS => ?_)
      have hP : va_P D vwCl (MW cI cB b st n td nd nh pl bs kd ag bo pa dm dn hh hn (upd pg pl (vp_nar .byte ((nI x1).toInt8.toInt32))) sv sd ik ks ktd knd knh kbs kag kbo kpa kdm kdn khh khn hf) H := hP
      have hD : va_D A (MW cI cB b st n td nd nh pl bs kd ag bo pa dm dn hh hn (upd pg pl (vp_nar .byte ((nI x1).toInt8.toInt32))) sv sd ik ks ktd knd knh kbs kag kbo kpa kdm kdn khh khn hf) := hD
      have e_1 : upd pg pl (vp_nar .byte ((nI x1).toInt8.toInt32)) = upd pg pl (nI x1) := by rw [byte_ok x1 q2]
      rw [e_1] at hP hD
      have hP : va_P D vwCl (MW cI cB b st n td nd nh pl bs kd ag bo pa dm dn hh hn (upd pg pl (nI x1)) sv sd ik ks ktd knd knh kbs kag kbo kpa kdm kdn khh khn hf) H := hP
      have hD : va_D A (MW cI cB b st n td nd nh pl bs kd ag bo pa dm dn hh hn (upd pg pl (nI x1)) sv sd ik ks ktd knd knh kbs kag kbo kpa kdm kdn khh khn hf) := hD
      refine lv_aload_n hx hb dX3_letter_37 rfl (lv_at hl 0 rfl) ?_
      refine lv_dup hx hb dX3_letter_38 rfl ?_
      refine va_get (D := D) (ci := 3) (v := .int (nI pl)) (C := RX3) (T := TX3) (N := 32) hx hb hg us_X3 hown hK.1 hP 0 rfl rfl 14 (by decide) (hg _ gm_415) (fun _ h9 => h9) rfl dX3_letter_39 ?_
      refine lv_iconst (v := (nI 1)) hx hb dX3_letter_42 (by decide) ?_
      refine nv_iadd hx hb dX3_letter_43 ?_
      refine va_put (D := D) (ci := 3) (v := .int (nI (pl + 1))) (ty := .int) (C := RX3) (T := TX3) (N := 32) hx hb hg us_X3 tyX3 tyX3_ok nmX3 hown hK.1 hP hD hS 0 rfl rfl 14 (by decide) (hg _ gm_415) (fun _ h9 => h9) rfl (by decide +kernel) rfl rfl (Nat.le_of_ble_eq_true rfl) dX3_letter_44 (fun H locs hP hD hS => ?_)
      have hP : va_P D vwCl (MW cI cB b st n td nd nh (pl + 1) bs kd ag bo pa dm dn hh hn (upd pg pl (nI x1)) sv sd ik ks ktd knd knh kbs kag kbo kpa kdm kdn khh khn hf) H := hP
      have hD : va_D A (MW cI cB b st n td nd nh (pl + 1) bs kd ag bo pa dm dn hh hn (upd pg pl (nI x1)) sv sd ik ks ktd knd knh kbs kag kbo kpa kdm kdn khh khn hf) := hD
      refine lv_aload_n hx hb dX3_letter_47 rfl (lv_at hl 0 rfl) ?_
      refine va_get (D := D) (ci := 3) (v := .int (nI (pl + 1))) (C := RX3) (T := TX3) (N := 32) hx hb hg us_X3 hown hK.1 hP 0 rfl rfl 14 (by decide) (hg _ gm_415) (fun _ h9 => h9) rfl dX3_letter_48 ?_
      subst hAe
      exact wr_i (w1 := fun (u : (Nat → Int32) × Nat) => MW cI cB b st n td nd nh u.2 bs kd ag bo pa dm dn hh hn u.1 sv sd ik ks ktd knd knh kbs kag kbo kpa kdm kdn khh khn hf) hx hb hr hlocks hS (upd pg pl (nI x1), pl + 1) hP dX3_letter_51 (by unfold letF; rw [if_pos c_8, if_neg c_20])
    · skip
      refine lv_bipush (v := (-104)) hx hb dX3_letter_23 (by decide) ?_
      subst hAe
      exact wr_i (w1 := fun (u : (Nat → Int32) × Nat) => MW cI cB b st n td nd nh u.2 bs kd ag bo pa dm dn hh hn u.1 sv sd ik ks ktd knd knh kbs kag kbo kpa kdm kdn khh khn hf) hx hb hr hlocks hS (pg, pl) hP dX3_letter_25 (by unfold letF; rw [if_pos c_8, if_pos c_20])
  · skip
    refine lv_bipush (v := (-102)) hx hb dX3_letter_11 (by decide) ?_
    subst hAe
    exact wr_i (w1 := fun (u : (Nat → Int32) × Nat) => MW cI cB b st n td nd nh u.2 bs kd ag bo pa dm dn hh hn u.1 sv sd ik ks ktd knd knh kbs kag kbo kpa kdm kdn khh khn hf) hx hb hr hlocks hS (pg, pl) hP dX3_letter_13 ((if_neg c_8).symm)
abbrev rm_X3_ageNone : Room := { frames := 1, cells := 0, slots := 0, locals := 21 }
theorem vf_X3_lends : vfacts RX3 yX3_lends cX3_lends 2 (some .boolean) 1 := ⟨⟨rfl, by decide +kernel, by decide +kernel, by decide +kernel⟩, gm_536, gm_719, gm_5, gm_537⟩
set_option maxRecDepth 100000 in
set_option maxHeartbeats 4000000 in
theorem c_X3_ageNone (l : Launch) (D : va_G) (cI cB : ClassId) (aS : Nat) (b : Nat → Nat) (st n td nd nh pl : Nat) (bs : Int32) (kd ag bo pa dm dn hh hn pg sv : Nat → Int32) (sd : Int64) (ik : Int32) (ks ktd knd knh : Nat) (kbs : Int32) (kag kbo kpa kdm kdn khh khn : Nat → Int32) (hf : Int64) (j : Nat) (hD0 : va_D (fun _ => True) (MW cI cB b st n td nd nh pl bs kd ag bo pa dm dn hh hn pg sv sd ik ks ktd knd knh kbs kag kbo kpa kdm kdn khh khn hf)) (qj : j < n) (hn6 : n ≤ 6) : Met l yX3_ageNone (mw yX3_ageNone cX3_ageNone 2 none) rm_X3_ageNone (RP D cI cB aS (MW cI cB b st n td nd nh pl bs kd ag bo pa dm dn hh hn pg sv sd ik ks ktd knd knh kbs kag kbo kpa kdm kdn khh khn hf) [.ref (b 0), .int (nI j)]) (wq mkV (MW cI cB b st n td nd nh pl bs kd ag bo pa dm dn hh hn pg sv sd ik ks ktd knd knh kbs kag kbo kpa kdm kdn khh khn hf) (fun (_ : Unit) => MW cI cB b st n td nd nh pl bs kd (bearF n kd ag j) bo pa dm dn hh hn pg sv sd ik ks ktd knd knh kbs kag kbo kpa kdm kdn khh khn hf) D (fun (_ : Unit) (_ : Unit) => True)) 0 0 (inW (MW cI cB b st n td nd nh pl bs kd ag bo pa dm dn hh hn pg sv sd ik ks ktd knd knh kbs kag kbo kpa kdm kdn khh khn hf)) := by
  refine met_of (by decide) (Nat.le_of_ble_eq_true rfl) ?_
  intro p e s m below meth c ls hx hb hr hml hown hg hlocks hin hK hP hl
  have hown : s.vm.findClass RX3 = some m.cls := hown
  have hl : lv_has ls 2 [(0, .ref (b 0)), (1, .int (nI j))] := hl
  have hD := hD0.here
  have hS0 : va_S (inW (MW cI cB b st n td nd nh pl bs kd ag bo pa dm dn hh hn pg sv sd ik ks ktd knd knh kbs kag kbo kpa kdm kdn khh khn hf)) s.heap s.heap [] := va_S.rf
  obtain ⟨H, hH⟩ : ∃ H, H = s.heap := ⟨_, rfl⟩
  have hS : va_S (inW (MW cI cB b st n td nd nh pl bs kd ag bo pa dm dn hh hn pg sv sd ik ks ktd knd knh kbs kag kbo kpa kdm kdn khh khn hf)) s.heap H [] := by rw [hH]; exact hS0
  clear hS0
  rw [← hH] at hP ⊢
  generalize hAe : inW (MW cI cB b st n td nd nh pl bs kd ag bo pa dm dn hh hn pg sv sd ik ks ktd knd knh kbs kag kbo kpa kdm kdn khh khn hf) = A at hD hS ⊢
  refine lv_aload_n hx hb dX3_ageNone_0 rfl (lv_at hl 0 rfl) ?_
  refine va_get (D := D) (ci := 3) (v := .ref (b 2)) (C := RX3) (T := TX3) (N := 32) hx hb hg us_X3 hown hK.1 hP 0 rfl rfl 3 (by decide) (hg _ gm_404) (fun _ h9 => h9) rfl dX3_ageNone_1 ?_
  refine lv_iload_n hx hb dX3_ageNone_4 rfl (lv_at hl 1 rfl) ?_
  refine lv_iconst (v := (nI 0)) hx hb dX3_ageNone_5 (by decide) ?_
  refine nv_iast hx hb hK.1 hP hD hS 2 0 rfl rfl (by omega) (by decide) dX3_ageNone_6 (fun H locs hP hD hS => ?_)
  have hP : va_P D vwCl (MW cI cB b st n td nd nh pl bs kd (upd ag j (nI 0)) bo pa dm dn hh hn pg sv sd ik ks ktd knd knh kbs kag kbo kpa kdm kdn khh khn hf) H := hP
  have hD : va_D A (MW cI cB b st n td nd nh pl bs kd (upd ag j (nI 0)) bo pa dm dn hh hn pg sv sd ik ks ktd knd knh kbs kag kbo kpa kdm kdn khh khn hf) := hD
  refine lv_aload_n hx hb dX3_ageNone_7 rfl (lv_at hl 0 rfl) ?_
  refine lv_iload_n hx hb dX3_ageNone_8 rfl (lv_at hl 1 rfl) ?_
  refine rdV (As := [.int (nI j)]) (rest := []) hx hb hml hown hg (c_X3_lends l D cI cB aS _ st n td nd nh pl bs kd (upd ag j (nI 0)) bo pa dm dn hh hn pg sv sd ik ks ktd knd knh kbs kag kbo kpa kdm kdn khh khn hf j (by first | assumption | omega) (by first | assumption | omega)) gm_535 vf_X3_lends ⟨Nat.le_of_ble_eq_true rfl, Nat.le_of_ble_eq_true rfl⟩ ⟨rfl, rfl⟩ ⟨Nat.zero_le _, Nat.zero_le _⟩ (RP.preV hK hP (q0 := 0) (ci := 3) rfl rfl) rfl hl.1 rfl (Nat.le_of_ble_eq_true rfl) dX3_ageNone_9 ?_
  refine bv_if_eq (tgt := 24) hx hb dX3_ageNone_12 (by decide) (fun c_12 => ?_) (fun c_12 => ?_)
  · skip
    subst hAe
    exact wr_v (w1 := fun (_ : Unit) => MW cI cB b st n td nd nh pl bs kd (bearF n kd ag j) bo pa dm dn hh hn pg sv sd ik ks ktd knd knh kbs kag kbo kpa kdm kdn khh khn hf) hx hb hr hlocks hS () (by show va_P D vwCl (MW cI cB b st n td nd nh pl bs kd (bearF n kd ag j) bo pa dm dn hh hn pg sv sd ik ks ktd knd knh kbs kag kbo kpa kdm kdn khh khn hf) H; rw [bear_f c_12]; exact hP) dX3_ageNone_24 trivial
  · skip
    refine lv_aload_n hx hb dX3_ageNone_15 rfl (lv_at hl 0 rfl) ?_
    refine va_get (D := D) (ci := 3) (v := .ref (b 2)) (C := RX3) (T := TX3) (N := 32) hx hb hg us_X3 hown hK.1 hP 0 rfl rfl 3 (by decide) (hg _ gm_404) (fun _ h9 => h9) rfl dX3_ageNone_16 ?_
    refine lv_iload_n hx hb dX3_ageNone_19 rfl (lv_at hl 1 rfl) ?_
    refine lv_iconst (v := (nI 1)) hx hb dX3_ageNone_20 (by decide) ?_
    refine nv_iadd hx hb dX3_ageNone_21 ?_
    refine lv_iconst (v := (nI 0)) hx hb dX3_ageNone_22 (by decide) ?_
    refine nv_iast hx hb hK.1 hP hD hS 2 0 rfl rfl (by omega) (by decide) dX3_ageNone_23 (fun H locs hP hD hS => ?_)
    have hP : va_P D vwCl (MW cI cB b st n td nd nh pl bs kd (upd (upd ag j (nI 0)) (j + 1) (nI 0)) bo pa dm dn hh hn pg sv sd ik ks ktd knd knh kbs kag kbo kpa kdm kdn khh khn hf) H := hP
    have hD : va_D A (MW cI cB b st n td nd nh pl bs kd (upd (upd ag j (nI 0)) (j + 1) (nI 0)) bo pa dm dn hh hn pg sv sd ik ks ktd knd knh kbs kag kbo kpa kdm kdn khh khn hf) := hD
    subst hAe
    exact wr_v (w1 := fun (_ : Unit) => MW cI cB b st n td nd nh pl bs kd (bearF n kd ag j) bo pa dm dn hh hn pg sv sd ik ks ktd knd knh kbs kag kbo kpa kdm kdn khh khn hf) hx hb hr hlocks hS () (by show va_P D vwCl (MW cI cB b st n td nd nh pl bs kd (bearF n kd ag j) bo pa dm dn hh hn pg sv sd ik ks ktd knd knh kbs kag kbo kpa kdm kdn khh khn hf) H; rw [bear_t c_12]; exact hP) dX3_ageNone_24 trivial
abbrev rm_X3_ageMore : Room := { frames := 0, cells := 0, slots := 0, locals := 0 }
set_option maxRecDepth 100000 in
set_option maxHeartbeats 4000000 in
theorem c_X3_ageMore (l : Launch) (D : va_G) (cI cB : ClassId) (aS : Nat) (b : Nat → Nat) (st n td nd nh pl : Nat) (bs : Int32) (kd ag bo pa dm dn hh hn pg sv : Nat → Int32) (sd : Int64) (ik : Int32) (ks ktd knd knh : Nat) (kbs : Int32) (kag kbo kpa kdm kdn khh khn : Nat → Int32) (hf : Int64)  (hD0 : va_D (fun _ => True) (MW cI cB b st n td nd nh pl bs kd ag bo pa dm dn hh hn pg sv sd ik ks ktd knd knh kbs kag kbo kpa kdm kdn khh khn hf)) (hn6 : n ≤ 6) : Met l yX3_ageMore (mw yX3_ageMore cX3_ageMore 2 none) rm_X3_ageMore (RP D cI cB aS (MW cI cB b st n td nd nh pl bs kd ag bo pa dm dn hh hn pg sv sd ik ks ktd knd knh kbs kag kbo kpa kdm kdn khh khn hf) [.ref (b 0)]) (wq mkV (MW cI cB b st n td nd nh pl bs kd ag bo pa dm dn hh hn pg sv sd ik ks ktd knd knh kbs kag kbo kpa kdm kdn khh khn hf) (fun (_ : Unit) => MW cI cB b st n td nd nh pl bs kd (groF kd ag n) bo pa dm dn hh hn pg sv sd ik ks ktd knd knh kbs kag kbo kpa kdm kdn khh khn hf) D (fun (_ : Unit) (_ : Unit) => True)) 0 0 (inW (MW cI cB b st n td nd nh pl bs kd ag bo pa dm dn hh hn pg sv sd ik ks ktd knd knh kbs kag kbo kpa kdm kdn khh khn hf)) := by
  refine met_of (by decide) (Nat.le_of_ble_eq_true rfl) ?_
  intro p e s m below meth c ls hx hb hr hml hown hg hlocks hin hK hP hl
  have hown : s.vm.findClass RX3 = some m.cls := hown
  have hl : lv_has ls 2 [(0, .ref (b 0))] := hl
  have hD := hD0.here
  have hS0 : va_S (inW (MW cI cB b st n td nd nh pl bs kd ag bo pa dm dn hh hn pg sv sd ik ks ktd knd knh kbs kag kbo kpa kdm kdn khh khn hf)) s.heap s.heap [] := va_S.rf
  obtain ⟨H, hH⟩ : ∃ H, H = s.heap := ⟨_, rfl⟩
  have hS : va_S (inW (MW cI cB b st n td nd nh pl bs kd ag bo pa dm dn hh hn pg sv sd ik ks ktd knd knh kbs kag kbo kpa kdm kdn khh khn hf)) s.heap H [] := by rw [hH]; exact hS0
  clear hS0
  rw [← hH] at hP ⊢
  generalize hAe : inW (MW cI cB b st n td nd nh pl bs kd ag bo pa dm dn hh hn pg sv sd ik ks ktd knd knh kbs kag kbo kpa kdm kdn khh khn hf) = A at hD hS ⊢
  refine lv_iconst (v := (nI 0)) hx hb dX3_ageMore_0 (by decide) ?_
  refine lv_istore_n (lv' := [(1, .int (nI 0)), (0, .ref (b 0))]) hx hb dX3_ageMore_1 rfl hl (by decide) rfl (fun ls hl => ?_)
  -- loop at 2
  refine loopW (nL := 2) (S := Unit) (B := n) (I := fun i u => True) (lv := fun i u => [(0, .ref (b 0)), (1, .int (nI i))]) (wf := fun i u => MW cI cB b st n td nd nh pl bs kd (groF kd ag i) bo pa dm dn hh hn pg sv sd ik ks ktd knd knh kbs kag kbo kpa kdm kdn khh khn hf) 0 () (Nat.zero_le _) (trivial) (lv_sub hl [1, 0] rfl) (by show va_P D vwCl (MW cI cB b st n td nd nh pl bs kd (groF kd ag 0) bo pa dm dn hh hn pg sv sd ik ks ktd knd knh kbs kag kbo kpa kdm kdn khh khn hf) H; rw [gro_0]; exact hP) (hD.addr rfl) hS (fun i u ls H locs hj hI hl hP hD hS ih => ?_)
  have hP : va_P D vwCl (MW cI cB b st n td nd nh pl bs kd (groF kd ag i) bo pa dm dn hh hn pg sv sd ik ks ktd knd knh kbs kag kbo kpa kdm kdn khh khn hf) H := hP
  have hD : va_D A (MW cI cB b st n td nd nh pl bs kd (groF kd ag i) bo pa dm dn hh hn pg sv sd ik ks ktd knd knh kbs kag kbo kpa kdm kdn khh khn hf) := hD
  have hl : lv_has ls 2 [(0, .ref (b 0)), (1, .int (nI i))] := hl
  have ih_2 := ih
  refine lv_iload_n hx hb dX3_ageMore_2 rfl (lv_at hl 1 rfl) ?_
  refine lv_aload_n hx hb dX3_ageMore_3 rfl (lv_at hl 0 rfl) ?_
  refine va_get (D := D) (ci := 3) (v := .int (nI n)) (C := RX3) (T := TX3) (N := 32) hx hb hg us_X3 hown hK.1 hP 0 rfl rfl 1 (by decide) (hg _ gm_402) (fun _ h9 => h9) rfl dX3_ageMore_4 ?_
  refine nv_icmp_ge (tgt := 40) hx hb dX3_ageMore_7 (by omega) (by omega) (by decide) (fun c_7 => ?_) (fun c_7 => ?_)
  · skip
    subst hAe
    exact wr_v (w1 := fun (_ : Unit) => MW cI cB b st n td nd nh pl bs kd (groF kd ag n) bo pa dm dn hh hn pg sv sd ik ks ktd knd knh kbs kag kbo kpa kdm kdn khh khn hf) hx hb hr hlocks hS () (by rw [show i = n by omega] at hP; exact hP) dX3_ageMore_40 trivial
  · skip
    refine lv_aload_n hx hb dX3_ageMore_10 rfl (lv_at hl 0 rfl) ?_
    refine va_get (D := D) (ci := 3) (v := .ref (b 2)) (C := RX3) (T := TX3) (N := 32) hx hb hg us_X3 hown hK.1 hP 0 rfl rfl 3 (by decide) (hg _ gm_404) (fun _ h9 => h9) rfl dX3_ageMore_11 ?_
    refine lv_iload_n hx hb dX3_ageMore_14 rfl (lv_at hl 1 rfl) ?_
    refine lv_dup2_11 hx hb dX3_ageMore_15 rfl rfl ?_
    refine nv_iald hx hb hK.1 hP 2 0 rfl rfl (by omega) (by decide) dX3_ageMore_16 ?_
    refine lv_aload_n hx hb dX3_ageMore_17 rfl (lv_at hl 0 rfl) ?_
    refine va_get (D := D) (ci := 3) (v := .ref (b 1)) (C := RX3) (T := TX3) (N := 32) hx hb hg us_X3 hown hK.1 hP 0 rfl rfl 2 (by decide) (hg _ gm_403) (fun _ h9 => h9) rfl dX3_ageMore_18 ?_
    refine lv_iload_n hx hb dX3_ageMore_21 rfl (lv_at hl 1 rfl) ?_
    refine nv_iald hx hb hK.1 hP 1 0 rfl rfl (by omega) (by decide) dX3_ageMore_22 ?_
    refine lv_iconst (v := (nI 4)) hx hb dX3_ageMore_23 (by decide) ?_
    refine lv_icmp_ne (tgt := 31) hx hb dX3_ageMore_24 (by decide) (fun c_24 => ?_) (fun c_24 => ?_)
    · skip
      refine lv_iconst (v := (nI 1)) hx hb dX3_ageMore_31 (by decide) ?_
      refine lv_iadd hx hb dX3_ageMore_32 ?_
      refine nv_iast hx hb hK.1 hP hD hS 2 0 rfl rfl (by omega) (by decide) dX3_ageMore_33 (fun H locs hP hD hS => ?_)
      have hP : va_P D vwCl (MW cI cB b st n td nd nh pl bs kd (upd (groF kd ag i) i (((groF kd ag i) i) + (nI 1))) bo pa dm dn hh hn pg sv sd ik ks ktd knd knh kbs kag kbo kpa kdm kdn khh khn hf) H := hP
      have hD : va_D A (MW cI cB b st n td nd nh pl bs kd (upd (groF kd ag i) i (((groF kd ag i) i) + (nI 1))) bo pa dm dn hh hn pg sv sd ik ks ktd knd knh kbs kag kbo kpa kdm kdn khh khn hf) := hD
      have e_1 : upd (groF kd ag i) i (((groF kd ag i) i) + (nI 1)) = groF kd ag (i + 1) := gro_s2 c_24
      rw [e_1] at hP hD
      have hP : va_P D vwCl (MW cI cB b st n td nd nh pl bs kd (groF kd ag (i + 1)) bo pa dm dn hh hn pg sv sd ik ks ktd knd knh kbs kag kbo kpa kdm kdn khh khn hf) H := hP
      have hD : va_D A (MW cI cB b st n td nd nh pl bs kd (groF kd ag (i + 1)) bo pa dm dn hh hn pg sv sd ik ks ktd knd knh kbs kag kbo kpa kdm kdn khh khn hf) := hD
      refine lv_iinc (v := (nI (i + 1))) (lv' := [(1, .int (nI (i + 1))), (0, .ref (b 0))]) hx hb dX3_ageMore_34 hl (k := 1) rfl (nI_i1 _) (by decide) rfl (fun ls hl => ?_)
      refine lv_goto (tgt := 2) hx hb dX3_ageMore_37 (by decide) ?_
      exact ih_2 () _ _ _ (by omega) (trivial) (lv_sub hl [1, 0] rfl) hP (hD.addr rfl) hS
    · skip
      refine lv_iconst (v := (nI 0)) hx hb dX3_ageMore_27 (by decide) ?_
      refine lv_goto (tgt := 32) hx hb dX3_ageMore_28 (by decide) ?_
      refine lv_iadd hx hb dX3_ageMore_32 ?_
      refine nv_iast hx hb hK.1 hP hD hS 2 0 rfl rfl (by omega) (by decide) dX3_ageMore_33 (fun H locs hP hD hS => ?_)
      have hP : va_P D vwCl (MW cI cB b st n td nd nh pl bs kd (upd (groF kd ag i) i (((groF kd ag i) i) + (nI 0))) bo pa dm dn hh hn pg sv sd ik ks ktd knd knh kbs kag kbo kpa kdm kdn khh khn hf) H := hP
      have hD : va_D A (MW cI cB b st n td nd nh pl bs kd (upd (groF kd ag i) i (((groF kd ag i) i) + (nI 0))) bo pa dm dn hh hn pg sv sd ik ks ktd knd knh kbs kag kbo kpa kdm kdn khh khn hf) := hD
      have e_2 : upd (groF kd ag i) i (((groF kd ag i) i) + (nI 0)) = groF kd ag (i + 1) := gro_s1 c_24
      rw [e_2] at hP hD
      have hP : va_P D vwCl (MW cI cB b st n td nd nh pl bs kd (groF kd ag (i + 1)) bo pa dm dn hh hn pg sv sd ik ks ktd knd knh kbs kag kbo kpa kdm kdn khh khn hf) H := hP
      have hD : va_D A (MW cI cB b st n td nd nh pl bs kd (groF kd ag (i + 1)) bo pa dm dn hh hn pg sv sd ik ks ktd knd knh kbs kag kbo kpa kdm kdn khh khn hf) := hD
      refine lv_iinc (v := (nI (i + 1))) (lv' := [(1, .int (nI (i + 1))), (0, .ref (b 0))]) hx hb dX3_ageMore_34 hl (k := 1) rfl (nI_i1 _) (by decide) rfl (fun ls hl => ?_)
      refine lv_goto (tgt := 2) hx hb dX3_ageMore_37 (by decide) ?_
      exact ih_2 () _ _ _ (by omega) (trivial) (lv_sub hl [1, 0] rfl) hP (hD.addr rfl) hS
abbrev rm_X3_save : Room := { frames := 0, cells := 0, slots := 0, locals := 0 }
set_option maxRecDepth 100000 in
set_option maxHeartbeats 4000000 in
theorem c_X3_save (l : Launch) (D : va_G) (cI cB : ClassId) (aS : Nat) (b : Nat → Nat) (st n td nd nh pl : Nat) (bs : Int32) (kd ag bo pa dm dn hh hn pg sv : Nat → Int32) (sd : Int64) (ik : Int32) (ks ktd knd knh : Nat) (kbs : Int32) (kag kbo kpa kdm kdn khh khn : Nat → Int32) (hf : Int64)  (hD0 : va_D (fun _ => True) (MW cI cB b st n td nd nh pl bs kd ag bo pa dm dn hh hn pg sv sd ik ks ktd knd knh kbs kag kbo kpa kdm kdn khh khn hf)) : Met l yX3_save (mw yX3_save cX3_save 2 none) rm_X3_save (RP D cI cB aS (MW cI cB b st n td nd nh pl bs kd ag bo pa dm dn hh hn pg sv sd ik ks ktd knd knh kbs kag kbo kpa kdm kdn khh khn hf) [.ref (b 0)]) (wq mkV (MW cI cB b st n td nd nh pl bs kd ag bo pa dm dn hh hn pg sv sd ik ks ktd knd knh kbs kag kbo kpa kdm kdn khh khn hf) (fun (_ : Unit) => MW cI cB b st n td nd nh pl bs kd ag bo pa dm dn hh hn pg ag sd ik ks ktd knd knh kbs kag kbo kpa kdm kdn khh khn hf) D (fun (_ : Unit) (_ : Unit) => True)) 0 0 (inW (MW cI cB b st n td nd nh pl bs kd ag bo pa dm dn hh hn pg sv sd ik ks ktd knd knh kbs kag kbo kpa kdm kdn khh khn hf)) := by
  refine met_of (by decide) (Nat.le_of_ble_eq_true rfl) ?_
  intro p e s m below meth c ls hx hb hr hml hown hg hlocks hin hK hP hl
  have hown : s.vm.findClass RX3 = some m.cls := hown
  have hl : lv_has ls 2 [(0, .ref (b 0))] := hl
  have hD := hD0.here
  have hS0 : va_S (inW (MW cI cB b st n td nd nh pl bs kd ag bo pa dm dn hh hn pg sv sd ik ks ktd knd knh kbs kag kbo kpa kdm kdn khh khn hf)) s.heap s.heap [] := va_S.rf
  obtain ⟨H, hH⟩ : ∃ H, H = s.heap := ⟨_, rfl⟩
  have hS : va_S (inW (MW cI cB b st n td nd nh pl bs kd ag bo pa dm dn hh hn pg sv sd ik ks ktd knd knh kbs kag kbo kpa kdm kdn khh khn hf)) s.heap H [] := by rw [hH]; exact hS0
  clear hS0
  rw [← hH] at hP ⊢
  generalize hAe : inW (MW cI cB b st n td nd nh pl bs kd ag bo pa dm dn hh hn pg sv sd ik ks ktd knd knh kbs kag kbo kpa kdm kdn khh khn hf) = A at hD hS ⊢
  refine lv_iconst (v := (nI 0)) hx hb dX3_save_0 (by decide) ?_
  refine lv_istore_n (lv' := [(1, .int (nI 0)), (0, .ref (b 0))]) hx hb dX3_save_1 rfl hl (by decide) rfl (fun ls hl => ?_)
  -- loop at 2
  refine loopW (nL := 2) (S := Unit) (B := 6) (I := fun i u => True) (lv := fun i u => [(0, .ref (b 0)), (1, .int (nI i))]) (wf := fun i u => MW cI cB b st n td nd nh pl bs kd ag bo pa dm dn hh hn pg (cpF ag sv i) sd ik ks ktd knd knh kbs kag kbo kpa kdm kdn khh khn hf) 0 () (Nat.zero_le _) (trivial) (lv_sub hl [1, 0] rfl) (by show va_P D vwCl (MW cI cB b st n td nd nh pl bs kd ag bo pa dm dn hh hn pg (cpF ag sv 0) sd ik ks ktd knd knh kbs kag kbo kpa kdm kdn khh khn hf) H; rw [cpF_0]; exact hP) (hD.addr rfl) hS (fun i u ls H locs hj hI hl hP hD hS ih => ?_)
  have hP : va_P D vwCl (MW cI cB b st n td nd nh pl bs kd ag bo pa dm dn hh hn pg (cpF ag sv i) sd ik ks ktd knd knh kbs kag kbo kpa kdm kdn khh khn hf) H := hP
  have hD : va_D A (MW cI cB b st n td nd nh pl bs kd ag bo pa dm dn hh hn pg (cpF ag sv i) sd ik ks ktd knd knh kbs kag kbo kpa kdm kdn khh khn hf) := hD
  have hl : lv_has ls 2 [(0, .ref (b 0)), (1, .int (nI i))] := hl
  have ih_2 := ih
  refine lv_iload_n hx hb dX3_save_2 rfl (lv_at hl 1 rfl) ?_
  refine lv_bipush (v := (nI 6)) hx hb dX3_save_3 (by decide) ?_
  refine nv_icmp_ge (tgt := 26) hx hb dX3_save_5 (by omega) (by omega) (by decide) (fun c_5 => ?_) (fun c_5 => ?_)
  · skip
    have hP : va_P D vwCl (MW cI cB b st n td nd nh pl bs kd ag bo pa dm dn hh hn pg ag sd ik ks ktd knd knh kbs kag kbo kpa kdm kdn khh khn hf) H := P_congr (g := ag) hP 10 rfl (fun j hj => cpF_at (by omega))
    have hD : va_D A (MW cI cB b st n td nd nh pl bs kd ag bo pa dm dn hh hn pg ag sd ik ks ktd knd knh kbs kag kbo kpa kdm kdn khh khn hf) := hD.addr rfl
    subst hAe
    exact wr_v (w1 := fun (_ : Unit) => MW cI cB b st n td nd nh pl bs kd ag bo pa dm dn hh hn pg ag sd ik ks ktd knd knh kbs kag kbo kpa kdm kdn khh khn hf) hx hb hr hlocks hS () hP dX3_save_26 trivial
  · skip
    refine lv_aload_n hx hb dX3_save_8 rfl (lv_at hl 0 rfl) ?_
    refine va_get (D := D) (ci := 3) (v := .ref (b 10)) (C := RX3) (T := TX3) (N := 32) hx hb hg us_X3 hown hK.1 hP 0 rfl rfl 16 (by decide) (hg _ gm_417) (fun _ h9 => h9) rfl dX3_save_9 ?_
    refine lv_iload_n hx hb dX3_save_12 rfl (lv_at hl 1 rfl) ?_
    refine lv_aload_n hx hb dX3_save_13 rfl (lv_at hl 0 rfl) ?_
    refine va_get (D := D) (ci := 3) (v := .ref (b 2)) (C := RX3) (T := TX3) (N := 32) hx hb hg us_X3 hown hK.1 hP 0 rfl rfl 3 (by decide) (hg _ gm_404) (fun _ h9 => h9) rfl dX3_save_14 ?_
    refine lv_iload_n hx hb dX3_save_17 rfl (lv_at hl 1 rfl) ?_
    refine nv_iald hx hb hK.1 hP 2 0 rfl rfl (by omega) (by decide) dX3_save_18 ?_
    refine nv_iast hx hb hK.1 hP hD hS 10 0 rfl rfl (by omega) (by decide) dX3_save_19 (fun H locs hP hD hS => ?_)
    have hP : va_P D vwCl (MW cI cB b st n td nd nh pl bs kd ag bo pa dm dn hh hn pg (upd (cpF ag sv i) i (ag i)) sd ik ks ktd knd knh kbs kag kbo kpa kdm kdn khh khn hf) H := hP
    have hD : va_D A (MW cI cB b st n td nd nh pl bs kd ag bo pa dm dn hh hn pg (upd (cpF ag sv i) i (ag i)) sd ik ks ktd knd knh kbs kag kbo kpa kdm kdn khh khn hf) := hD
    have e_1 : upd (cpF ag sv i) i (ag i) = cpF ag sv (i + 1) := cpF_s rfl
    rw [e_1] at hP hD
    have hP : va_P D vwCl (MW cI cB b st n td nd nh pl bs kd ag bo pa dm dn hh hn pg (cpF ag sv (i + 1)) sd ik ks ktd knd knh kbs kag kbo kpa kdm kdn khh khn hf) H := hP
    have hD : va_D A (MW cI cB b st n td nd nh pl bs kd ag bo pa dm dn hh hn pg (cpF ag sv (i + 1)) sd ik ks ktd knd knh kbs kag kbo kpa kdm kdn khh khn hf) := hD
    refine lv_iinc (v := (nI (i + 1))) (lv' := [(1, .int (nI (i + 1))), (0, .ref (b 0))]) hx hb dX3_save_20 hl (k := 1) rfl (nI_i1 _) (by decide) rfl (fun ls hl => ?_)
    refine lv_goto (tgt := 2) hx hb dX3_save_23 (by decide) ?_
    exact ih_2 () _ _ _ (by omega) (trivial) (lv_sub hl [1, 0] rfl) hP (hD.addr rfl) hS
abbrev rm_X3_load : Room := { frames := 0, cells := 0, slots := 0, locals := 0 }
set_option maxRecDepth 100000 in
set_option maxHeartbeats 4000000 in
theorem c_X3_load (l : Launch) (D : va_G) (cI cB : ClassId) (aS : Nat) (b : Nat → Nat) (st n td nd nh pl : Nat) (bs : Int32) (kd ag bo pa dm dn hh hn pg sv : Nat → Int32) (sd : Int64) (ik : Int32) (ks ktd knd knh : Nat) (kbs : Int32) (kag kbo kpa kdm kdn khh khn : Nat → Int32) (hf : Int64)  (hD0 : va_D (fun _ => True) (MW cI cB b st n td nd nh pl bs kd ag bo pa dm dn hh hn pg sv sd ik ks ktd knd knh kbs kag kbo kpa kdm kdn khh khn hf)) : Met l yX3_load (mw yX3_load cX3_load 2 none) rm_X3_load (RP D cI cB aS (MW cI cB b st n td nd nh pl bs kd ag bo pa dm dn hh hn pg sv sd ik ks ktd knd knh kbs kag kbo kpa kdm kdn khh khn hf) [.ref (b 0)]) (wq mkV (MW cI cB b st n td nd nh pl bs kd ag bo pa dm dn hh hn pg sv sd ik ks ktd knd knh kbs kag kbo kpa kdm kdn khh khn hf) (fun (_ : Unit) => MW cI cB b st n td nd nh pl bs kd sv bo pa dm dn hh hn pg sv sd ik ks ktd knd knh kbs kag kbo kpa kdm kdn khh khn hf) D (fun (_ : Unit) (_ : Unit) => True)) 0 0 (inW (MW cI cB b st n td nd nh pl bs kd ag bo pa dm dn hh hn pg sv sd ik ks ktd knd knh kbs kag kbo kpa kdm kdn khh khn hf)) := by
  refine met_of (by decide) (Nat.le_of_ble_eq_true rfl) ?_
  intro p e s m below meth c ls hx hb hr hml hown hg hlocks hin hK hP hl
  have hown : s.vm.findClass RX3 = some m.cls := hown
  have hl : lv_has ls 2 [(0, .ref (b 0))] := hl
  have hD := hD0.here
  have hS0 : va_S (inW (MW cI cB b st n td nd nh pl bs kd ag bo pa dm dn hh hn pg sv sd ik ks ktd knd knh kbs kag kbo kpa kdm kdn khh khn hf)) s.heap s.heap [] := va_S.rf
  obtain ⟨H, hH⟩ : ∃ H, H = s.heap := ⟨_, rfl⟩
  have hS : va_S (inW (MW cI cB b st n td nd nh pl bs kd ag bo pa dm dn hh hn pg sv sd ik ks ktd knd knh kbs kag kbo kpa kdm kdn khh khn hf)) s.heap H [] := by rw [hH]; exact hS0
  clear hS0
  rw [← hH] at hP ⊢
  generalize hAe : inW (MW cI cB b st n td nd nh pl bs kd ag bo pa dm dn hh hn pg sv sd ik ks ktd knd knh kbs kag kbo kpa kdm kdn khh khn hf) = A at hD hS ⊢
  refine lv_iconst (v := (nI 0)) hx hb dX3_load_0 (by decide) ?_
  refine lv_istore_n (lv' := [(1, .int (nI 0)), (0, .ref (b 0))]) hx hb dX3_load_1 rfl hl (by decide) rfl (fun ls hl => ?_)
  -- loop at 2
  refine loopW (nL := 2) (S := Unit) (B := 6) (I := fun i u => True) (lv := fun i u => [(0, .ref (b 0)), (1, .int (nI i))]) (wf := fun i u => MW cI cB b st n td nd nh pl bs kd (cpF sv ag i) bo pa dm dn hh hn pg sv sd ik ks ktd knd knh kbs kag kbo kpa kdm kdn khh khn hf) 0 () (Nat.zero_le _) (trivial) (lv_sub hl [1, 0] rfl) (by show va_P D vwCl (MW cI cB b st n td nd nh pl bs kd (cpF sv ag 0) bo pa dm dn hh hn pg sv sd ik ks ktd knd knh kbs kag kbo kpa kdm kdn khh khn hf) H; rw [cpF_0]; exact hP) (hD.addr rfl) hS (fun i u ls H locs hj hI hl hP hD hS ih => ?_)
  have hP : va_P D vwCl (MW cI cB b st n td nd nh pl bs kd (cpF sv ag i) bo pa dm dn hh hn pg sv sd ik ks ktd knd knh kbs kag kbo kpa kdm kdn khh khn hf) H := hP
  have hD : va_D A (MW cI cB b st n td nd nh pl bs kd (cpF sv ag i) bo pa dm dn hh hn pg sv sd ik ks ktd knd knh kbs kag kbo kpa kdm kdn khh khn hf) := hD
  have hl : lv_has ls 2 [(0, .ref (b 0)), (1, .int (nI i))] := hl
  have ih_2 := ih
  refine lv_iload_n hx hb dX3_load_2 rfl (lv_at hl 1 rfl) ?_
  refine lv_bipush (v := (nI 6)) hx hb dX3_load_3 (by decide) ?_
  refine nv_icmp_ge (tgt := 26) hx hb dX3_load_5 (by omega) (by omega) (by decide) (fun c_5 => ?_) (fun c_5 => ?_)
  · skip
    have hP : va_P D vwCl (MW cI cB b st n td nd nh pl bs kd sv bo pa dm dn hh hn pg sv sd ik ks ktd knd knh kbs kag kbo kpa kdm kdn khh khn hf) H := P_congr (g := sv) hP 2 rfl (fun j hj => cpF_at (by omega))
    have hD : va_D A (MW cI cB b st n td nd nh pl bs kd sv bo pa dm dn hh hn pg sv sd ik ks ktd knd knh kbs kag kbo kpa kdm kdn khh khn hf) := hD.addr rfl
    subst hAe
    exact wr_v (w1 := fun (_ : Unit) => MW cI cB b st n td nd nh pl bs kd sv bo pa dm dn hh hn pg sv sd ik ks ktd knd knh kbs kag kbo kpa kdm kdn khh khn hf) hx hb hr hlocks hS () hP dX3_load_26 trivial
  · skip
    refine lv_aload_n hx hb dX3_load_8 rfl (lv_at hl 0 rfl) ?_
    refine va_get (D := D) (ci := 3) (v := .ref (b 2)) (C := RX3) (T := TX3) (N := 32) hx hb hg us_X3 hown hK.1 hP 0 rfl rfl 3 (by decide) (hg _ gm_404) (fun _ h9 => h9) rfl dX3_load_9 ?_
    refine lv_iload_n hx hb dX3_load_12 rfl (lv_at hl 1 rfl) ?_
    refine lv_aload_n hx hb dX3_load_13 rfl (lv_at hl 0 rfl) ?_
    refine va_get (D := D) (ci := 3) (v := .ref (b 10)) (C := RX3) (T := TX3) (N := 32) hx hb hg us_X3 hown hK.1 hP 0 rfl rfl 16 (by decide) (hg _ gm_417) (fun _ h9 => h9) rfl dX3_load_14 ?_
    refine lv_iload_n hx hb dX3_load_17 rfl (lv_at hl 1 rfl) ?_
    refine nv_iald hx hb hK.1 hP 10 0 rfl rfl (by omega) (by decide) dX3_load_18 ?_
    refine nv_iast hx hb hK.1 hP hD hS 2 0 rfl rfl (by omega) (by decide) dX3_load_19 (fun H locs hP hD hS => ?_)
    have hP : va_P D vwCl (MW cI cB b st n td nd nh pl bs kd (upd (cpF sv ag i) i (sv i)) bo pa dm dn hh hn pg sv sd ik ks ktd knd knh kbs kag kbo kpa kdm kdn khh khn hf) H := hP
    have hD : va_D A (MW cI cB b st n td nd nh pl bs kd (upd (cpF sv ag i) i (sv i)) bo pa dm dn hh hn pg sv sd ik ks ktd knd knh kbs kag kbo kpa kdm kdn khh khn hf) := hD
    have e_1 : upd (cpF sv ag i) i (sv i) = cpF sv ag (i + 1) := cpF_s rfl
    rw [e_1] at hP hD
    have hP : va_P D vwCl (MW cI cB b st n td nd nh pl bs kd (cpF sv ag (i + 1)) bo pa dm dn hh hn pg sv sd ik ks ktd knd knh kbs kag kbo kpa kdm kdn khh khn hf) H := hP
    have hD : va_D A (MW cI cB b st n td nd nh pl bs kd (cpF sv ag (i + 1)) bo pa dm dn hh hn pg sv sd ik ks ktd knd knh kbs kag kbo kpa kdm kdn khh khn hf) := hD
    refine lv_iinc (v := (nI (i + 1))) (lv' := [(1, .int (nI (i + 1))), (0, .ref (b 0))]) hx hb dX3_load_20 hl (k := 1) rfl (nI_i1 _) (by decide) rfl (fun ls hl => ?_)
    refine lv_goto (tgt := 2) hx hb dX3_load_23 (by decide) ?_
    exact ih_2 () _ _ _ (by omega) (trivial) (lv_sub hl [1, 0] rfl) hP (hD.addr rfl) hS
abbrev rm_X3_birth : Room := { frames := 2, cells := 0, slots := 0, locals := 43 }
theorem vf_X3_mayBirth : vfacts RX3 yX3_mayBirth cX3_mayBirth 2 (some .boolean) 1 := ⟨⟨rfl, by decide +kernel, by decide +kernel, by decide +kernel⟩, gm_530, gm_717, gm_5, gm_531⟩
theorem vf_X3_ageNone : vfacts RX3 yX3_ageNone cX3_ageNone 2 none 1 := ⟨⟨rfl, by decide +kernel, by decide +kernel, by decide +kernel⟩, gm_533, gm_718, gm_5, gm_534⟩
set_option maxRecDepth 100000 in
set_option maxHeartbeats 4000000 in
theorem c_X3_birth (l : Launch) (D : va_G) (cI cB : ClassId) (aS : Nat) (b : Nat → Nat) (st n td nd nh pl : Nat) (bs : Int32) (kd ag bo pa dm dn hh hn pg sv : Nat → Int32) (sd : Int64) (ik : Int32) (ks ktd knd knh : Nat) (kbs : Int32) (kag kbo kpa kdm kdn khh khn : Nat → Int32) (hf : Int64) (x : Int32) (hD0 : va_D (fun _ => True) (MW cI cB b st n td nd nh pl bs kd ag bo pa dm dn hh hn pg sv sd ik ks ktd knd knh kbs kag kbo kpa kdm kdn khh khn hf)) (hn6 : n ≤ 6) : Met l yX3_birth (mw yX3_birth cX3_birth 2 (some .int)) rm_X3_birth (RP D cI cB aS (MW cI cB b st n td nd nh pl bs kd ag bo pa dm dn hh hn pg sv sd ik ks ktd knd knh kbs kag kbo kpa kdm kdn khh khn hf) [.ref (b 0), .int x]) (wq mkI (MW cI cB b st n td nd nh pl bs kd ag bo pa dm dn hh hn pg sv sd ik ks ktd knd knh kbs kag kbo kpa kdm kdn khh khn hf) (fun (u : (Nat → Int32) × (Nat → Int32) × Int32) => MW cI cB b st n td nd nh pl u.2.2 kd u.1 u.2.1 pa dm dn hh hn pg sv sd ik ks ktd knd knh kbs kag kbo kpa kdm kdn khh khn hf) D (fun (r : Int32) (u : (Nat → Int32) × (Nat → Int32) × Int32) => (r, u) = birF n kd ag bo bs x)) 0 0 (inW (MW cI cB b st n td nd nh pl bs kd ag bo pa dm dn hh hn pg sv sd ik ks ktd knd knh kbs kag kbo kpa kdm kdn khh khn hf)) := by
  refine met_of (by decide) (Nat.le_of_ble_eq_true rfl) ?_
  intro p e s m below meth c ls hx hb hr hml hown hg hlocks hin hK hP hl
  have hown : s.vm.findClass RX3 = some m.cls := hown
  have hl : lv_has ls 2 [(0, .ref (b 0)), (1, .int x)] := hl
  have hD := hD0.here
  have hS0 : va_S (inW (MW cI cB b st n td nd nh pl bs kd ag bo pa dm dn hh hn pg sv sd ik ks ktd knd knh kbs kag kbo kpa kdm kdn khh khn hf)) s.heap s.heap [] := va_S.rf
  obtain ⟨H, hH⟩ : ∃ H, H = s.heap := ⟨_, rfl⟩
  have hS : va_S (inW (MW cI cB b st n td nd nh pl bs kd ag bo pa dm dn hh hn pg sv sd ik ks ktd knd knh kbs kag kbo kpa kdm kdn khh khn hf)) s.heap H [] := by rw [hH]; exact hS0
  clear hS0
  rw [← hH] at hP ⊢
  generalize hAe : inW (MW cI cB b st n td nd nh pl bs kd ag bo pa dm dn hh hn pg sv sd ik ks ktd knd knh kbs kag kbo kpa kdm kdn khh khn hf) = A at hD hS ⊢
  refine lv_aload_n hx hb dX3_birth_0 rfl (lv_at hl 0 rfl) ?_
  refine lv_iload_n hx hb dX3_birth_1 rfl (lv_at hl 1 rfl) ?_
  refine rdV (As := [.int x]) (rest := []) hx hb hml hown hg (c_X3_isHouse l D cI cB aS _ st n td nd nh pl bs kd ag bo pa dm dn hh hn pg sv sd ik ks ktd knd knh kbs kag kbo kpa kdm kdn khh khn hf x (by first | assumption | omega)) gm_497 vf_X3_isHouse ⟨Nat.le_of_ble_eq_true rfl, Nat.le_of_ble_eq_true rfl⟩ ⟨rfl, rfl⟩ ⟨Nat.zero_le _, Nat.zero_le _⟩ (RP.preV hK hP (q0 := 0) (ci := 3) rfl rfl) rfl hl.1 rfl (Nat.le_of_ble_eq_true rfl) dX3_birth_2 ?_
  refine bv_if_ne (tgt := 11) hx hb dX3_birth_5 (by decide) (fun c_5 => ?_) (fun c_5 => ?_)
  · skip
    obtain ⟨j, qj, ex⟩ := hIn_of c_5 (by omega)
    subst ex
    refine lv_aload_n hx hb dX3_birth_11 rfl (lv_at hl 0 rfl) ?_
    refine lv_iload_n hx hb dX3_birth_12 rfl (lv_at hl 1 rfl) ?_
    refine rdV (As := [.int (nI j)]) (rest := []) hx hb hml hown hg (c_X3_mayBirth l D cI cB aS _ st n td nd nh pl bs kd ag bo pa dm dn hh hn pg sv sd ik ks ktd knd knh kbs kag kbo kpa kdm kdn khh khn hf j (by first | assumption | omega)) gm_529 vf_X3_mayBirth ⟨Nat.le_of_ble_eq_true rfl, Nat.le_of_ble_eq_true rfl⟩ ⟨rfl, rfl⟩ ⟨Nat.zero_le _, Nat.zero_le _⟩ (RP.preV hK hP (q0 := 0) (ci := 3) rfl rfl) rfl hl.1 rfl (Nat.le_of_ble_eq_true rfl) dX3_birth_13 ?_
    refine bv_if_ne (tgt := 22) hx hb dX3_birth_16 (by decide) (fun c_16 => ?_) (fun c_16 => ?_)
    · skip
      refine lv_aload_n hx hb dX3_birth_22 rfl (lv_at hl 0 rfl) ?_
      refine lv_iload_n hx hb dX3_birth_23 rfl (lv_at hl 1 rfl) ?_
      refine wrVv (As := [.int (nI j)]) (rest := []) hx hb hml hown hg (c_X3_ageNone l D cI cB aS _ st n td nd nh pl bs kd ag bo pa dm dn hh hn pg sv sd ik ks ktd knd knh kbs kag kbo kpa kdm kdn khh khn hf j (hD.weaken (fun _ _ _ _ => trivial)) (by first | assumption | omega) (by first | assumption | omega)) gm_532 vf_X3_ageNone ⟨Nat.le_of_ble_eq_true rfl, Nat.le_of_ble_eq_true rfl⟩ ⟨rfl, rfl⟩ ⟨Nat.zero_le _, Nat.zero_le _⟩ (RP.preV hK hP (q0 := 0) (ci := 3) rfl rfl) rfl hl.1 rfl (Nat.le_of_ble_eq_true rfl) dX3_birth_24 hS (inW_all hD) (fun u_1 H1 locs hpo_1 hP1 hk1 hS => ?_)
      have hP : va_P D vwCl (MW cI cB b st n td nd nh pl bs kd (bearF n kd ag j) bo pa dm dn hh hn pg sv sd ik ks ktd knd knh kbs kag kbo kpa kdm kdn khh khn hf) H1 := hP1
      have hD : va_D A (MW cI cB b st n td nd nh pl bs kd (bearF n kd ag j) bo pa dm dn hh hn pg sv sd ik ks ktd knd knh kbs kag kbo kpa kdm kdn khh khn hf) := hD.addr rfl
      clear hP1 hk1
      generalize H1 = H at hP hS ⊢
      refine lv_aload_n hx hb dX3_birth_27 rfl (lv_at hl 0 rfl) ?_
      refine va_get (D := D) (ci := 3) (v := .ref (b 3)) (C := RX3) (T := TX3) (N := 32) hx hb hg us_X3 hown hK.1 hP 0 rfl rfl 4 (by decide) (hg _ gm_405) (fun _ h9 => h9) rfl dX3_birth_28 ?_
      refine lv_iload_n hx hb dX3_birth_31 rfl (lv_at hl 1 rfl) ?_
      refine lv_dup2_11 hx hb dX3_birth_32 rfl rfl ?_
      refine nv_iald hx hb hK.1 hP 3 0 rfl rfl (by omega) (by decide) dX3_birth_33 ?_
      refine lv_iconst (v := (nI 1)) hx hb dX3_birth_34 (by decide) ?_
      refine lv_iadd hx hb dX3_birth_35 ?_
      refine nv_iast hx hb hK.1 hP hD hS 3 0 rfl rfl (by omega) (by decide) dX3_birth_36 (fun H locs hP hD hS => ?_)
      have hP : va_P D vwCl (MW cI cB b st n td nd nh pl bs kd (bearF n kd ag j) (upd bo j ((bo j) + (nI 1))) pa dm dn hh hn pg sv sd ik ks ktd knd knh kbs kag kbo kpa kdm kdn khh khn hf) H := hP
      have hD : va_D A (MW cI cB b st n td nd nh pl bs kd (bearF n kd ag j) (upd bo j ((bo j) + (nI 1))) pa dm dn hh hn pg sv sd ik ks ktd knd knh kbs kag kbo kpa kdm kdn khh khn hf) := hD
      refine lv_aload_n hx hb dX3_birth_37 rfl (lv_at hl 0 rfl) ?_
      refine lv_dup hx hb dX3_birth_38 rfl ?_
      refine va_get (D := D) (ci := 3) (v := .int bs) (C := RX3) (T := TX3) (N := 32) hx hb hg us_X3 hown hK.1 hP 0 rfl rfl 7 (by decide) (hg _ gm_408) (fun _ h9 => h9) rfl dX3_birth_39 ?_
      refine lv_iconst (v := (nI 1)) hx hb dX3_birth_42 (by decide) ?_
      refine lv_iadd hx hb dX3_birth_43 ?_
      refine va_put (D := D) (ci := 3) (v := .int (bs + (nI 1))) (ty := .int) (C := RX3) (T := TX3) (N := 32) hx hb hg us_X3 tyX3 tyX3_ok nmX3 hown hK.1 hP hD hS 0 rfl rfl 7 (by decide) (hg _ gm_408) (fun _ h9 => h9) rfl (by decide +kernel) rfl rfl (Nat.le_of_ble_eq_true rfl) dX3_birth_44 (fun H locs hP hD hS => ?_)
      have hP : va_P D vwCl (MW cI cB b st n td nd nh pl (bs + (nI 1)) kd (bearF n kd ag j) (upd bo j ((bo j) + (nI 1))) pa dm dn hh hn pg sv sd ik ks ktd knd knh kbs kag kbo kpa kdm kdn khh khn hf) H := hP
      have hD : va_D A (MW cI cB b st n td nd nh pl (bs + (nI 1)) kd (bearF n kd ag j) (upd bo j ((bo j) + (nI 1))) pa dm dn hh hn pg sv sd ik ks ktd knd knh kbs kag kbo kpa kdm kdn khh khn hf) := hD
      refine lv_aload_n hx hb dX3_birth_47 rfl (lv_at hl 0 rfl) ?_
      refine lv_iload_n hx hb dX3_birth_48 rfl (lv_at hl 1 rfl) ?_
      refine rdV (As := [.int (nI j)]) (rest := []) hx hb hml hown hg (c_X3_lends l D cI cB aS _ st n td nd nh pl (bs + (nI 1)) kd (bearF n kd ag j) (upd bo j ((bo j) + (nI 1))) pa dm dn hh hn pg sv sd ik ks ktd knd knh kbs kag kbo kpa kdm kdn khh khn hf j (by first | assumption | omega) (by first | assumption | omega)) gm_535 vf_X3_lends ⟨Nat.le_of_ble_eq_true rfl, Nat.le_of_ble_eq_true rfl⟩ ⟨rfl, rfl⟩ ⟨Nat.zero_le _, Nat.zero_le _⟩ (RP.preV hK hP (q0 := 0) (ci := 3) rfl rfl) rfl hl.1 rfl (Nat.le_of_ble_eq_true rfl) dX3_birth_49 ?_
      refine bv_if_eq (tgt := 69) hx hb dX3_birth_52 (by decide) (fun c_52 => ?_) (fun c_52 => ?_)
      · skip
        refine lv_iconst (v := (nI 1)) hx hb dX3_birth_69 (by decide) ?_
        subst hAe
        exact wr_i (w1 := fun (u : (Nat → Int32) × (Nat → Int32) × Int32) => MW cI cB b st n td nd nh pl u.2.2 kd u.1 u.2.1 pa dm dn hh hn pg sv sd ik ks ktd knd knh kbs kag kbo kpa kdm kdn khh khn hf) hx hb hr hlocks hS (bearF n kd ag j, bornF n kd bo j, bs + nI 1) (by have e := born_f (bo := bo) c_52; rw [← e] at hP; exact hP) dX3_birth_70 (by rw [bir_ok qj hn6 c_16, if_neg c_52])
      · skip
        refine lv_aload_n hx hb dX3_birth_55 rfl (lv_at hl 0 rfl) ?_
        refine va_get (D := D) (ci := 3) (v := .ref (b 3)) (C := RX3) (T := TX3) (N := 32) hx hb hg us_X3 hown hK.1 hP 0 rfl rfl 4 (by decide) (hg _ gm_405) (fun _ h9 => h9) rfl dX3_birth_56 ?_
        refine lv_iload_n hx hb dX3_birth_59 rfl (lv_at hl 1 rfl) ?_
        refine lv_iconst (v := (nI 1)) hx hb dX3_birth_60 (by decide) ?_
        refine nv_iadd hx hb dX3_birth_61 ?_
        refine lv_dup2_11 hx hb dX3_birth_62 rfl rfl ?_
        refine nv_iald hx hb hK.1 hP 3 0 rfl rfl (by omega) (by decide) dX3_birth_63 ?_
        refine lv_iconst (v := (nI 1)) hx hb dX3_birth_64 (by decide) ?_
        refine lv_iadd hx hb dX3_birth_65 ?_
        refine nv_iast hx hb hK.1 hP hD hS 3 0 rfl rfl (by omega) (by decide) dX3_birth_66 (fun H locs hP hD hS => ?_)
        have hP : va_P D vwCl (MW cI cB b st n td nd nh pl (bs + (nI 1)) kd (bearF n kd ag j) (upd (upd bo j ((bo j) + (nI 1))) (j + 1) (((upd bo j ((bo j) + (nI 1))) (j + 1)) + (nI 1))) pa dm dn hh hn pg sv sd ik ks ktd knd knh kbs kag kbo kpa kdm kdn khh khn hf) H := hP
        have hD : va_D A (MW cI cB b st n td nd nh pl (bs + (nI 1)) kd (bearF n kd ag j) (upd (upd bo j ((bo j) + (nI 1))) (j + 1) (((upd bo j ((bo j) + (nI 1))) (j + 1)) + (nI 1))) pa dm dn hh hn pg sv sd ik ks ktd knd knh kbs kag kbo kpa kdm kdn khh khn hf) := hD
        refine lv_iconst (v := (nI 2)) hx hb dX3_birth_67 (by decide) ?_
        subst hAe
        exact wr_i (w1 := fun (u : (Nat → Int32) × (Nat → Int32) × Int32) => MW cI cB b st n td nd nh pl u.2.2 kd u.1 u.2.1 pa dm dn hh hn pg sv sd ik ks ktd knd knh kbs kag kbo kpa kdm kdn khh khn hf) hx hb hr hlocks hS (bearF n kd ag j, bornF n kd bo j, bs + nI 1) (by have e := born_t (bo := bo) c_52; rw [← e] at hP; exact hP) dX3_birth_68 (by rw [bir_ok qj hn6 c_16, if_pos c_52])
    · skip
      refine lv_bipush (v := (-103)) hx hb dX3_birth_19 (by decide) ?_
      subst hAe
      exact wr_i (w1 := fun (u : (Nat → Int32) × (Nat → Int32) × Int32) => MW cI cB b st n td nd nh pl u.2.2 kd u.1 u.2.1 pa dm dn hh hn pg sv sd ik ks ktd knd knh kbs kag kbo kpa kdm kdn khh khn hf) hx hb hr hlocks hS (ag, bo, bs) hP dX3_birth_21 ((bir_2 qj hn6 c_16).symm)
  · skip
    refine lv_bipush (v := (-101)) hx hb dX3_birth_8 (by decide) ?_
    subst hAe
    exact wr_i (w1 := fun (u : (Nat → Int32) × (Nat → Int32) × Int32) => MW cI cB b st n td nd nh pl u.2.2 kd u.1 u.2.1 pa dm dn hh hn pg sv sd ik ks ktd knd knh kbs kag kbo kpa kdm kdn khh khn hf) hx hb hr hlocks hS (ag, bo, bs) hP dX3_birth_10 ((bir_1 c_5).symm)
abbrev rm_X3_day : Room := { frames := 1, cells := 0, slots := 0, locals := 21 }
theorem vf_X3_ageMore : vfacts RX3 yX3_ageMore cX3_ageMore 2 none 0 := ⟨⟨rfl, by decide +kernel, by decide +kernel, by decide +kernel⟩, gm_543, gm_720, gm_5, gm_544⟩
set_option maxRecDepth 100000 in
set_option maxHeartbeats 4000000 in
theorem c_X3_day (l : Launch) (D : va_G) (cI cB : ClassId) (aS : Nat) (b : Nat → Nat) (st n td nd nh pl : Nat) (bs : Int32) (kd ag bo pa dm dn hh hn pg sv : Nat → Int32) (sd : Int64) (ik : Int32) (ks ktd knd knh : Nat) (kbs : Int32) (kag kbo kpa kdm kdn khh khn : Nat → Int32) (hf : Int64)  (hD0 : va_D (fun _ => True) (MW cI cB b st n td nd nh pl bs kd ag bo pa dm dn hh hn pg sv sd ik ks ktd knd knh kbs kag kbo kpa kdm kdn khh khn hf)) (hn6 : n ≤ 6) (qt : td ≤ 30) : Met l yX3_day (mw yX3_day cX3_day 2 (some .int)) rm_X3_day (RP D cI cB aS (MW cI cB b st n td nd nh pl bs kd ag bo pa dm dn hh hn pg sv sd ik ks ktd knd knh kbs kag kbo kpa kdm kdn khh khn hf) [.ref (b 0)]) (wq mkI (MW cI cB b st n td nd nh pl bs kd ag bo pa dm dn hh hn pg sv sd ik ks ktd knd knh kbs kag kbo kpa kdm kdn khh khn hf) (fun (u : (Nat → Int32) × (Nat → Int32) × Nat) => MW cI cB b st n u.2.2 nd nh pl bs kd u.1 bo u.2.1 dm dn hh hn pg sv sd ik ks ktd knd knh kbs kag kbo kpa kdm kdn khh khn hf) D (fun (r : Int32) (u : (Nat → Int32) × (Nat → Int32) × Nat) => (r, u) = dayF n td kd ag pa)) 0 0 (inW (MW cI cB b st n td nd nh pl bs kd ag bo pa dm dn hh hn pg sv sd ik ks ktd knd knh kbs kag kbo kpa kdm kdn khh khn hf)) := by
  refine met_of (by decide) (Nat.le_of_ble_eq_true rfl) ?_
  intro p e s m below meth c ls hx hb hr hml hown hg hlocks hin hK hP hl
  have hown : s.vm.findClass RX3 = some m.cls := hown
  have hl : lv_has ls 2 [(0, .ref (b 0))] := hl
  have hD := hD0.here
  have hS0 : va_S (inW (MW cI cB b st n td nd nh pl bs kd ag bo pa dm dn hh hn pg sv sd ik ks ktd knd knh kbs kag kbo kpa kdm kdn khh khn hf)) s.heap s.heap [] := va_S.rf
  obtain ⟨H, hH⟩ : ∃ H, H = s.heap := ⟨_, rfl⟩
  have hS : va_S (inW (MW cI cB b st n td nd nh pl bs kd ag bo pa dm dn hh hn pg sv sd ik ks ktd knd knh kbs kag kbo kpa kdm kdn khh khn hf)) s.heap H [] := by rw [hH]; exact hS0
  clear hS0
  rw [← hH] at hP ⊢
  generalize hAe : inW (MW cI cB b st n td nd nh pl bs kd ag bo pa dm dn hh hn pg sv sd ik ks ktd knd knh kbs kag kbo kpa kdm kdn khh khn hf) = A at hD hS ⊢
  refine lv_aload_n hx hb dX3_day_0 rfl (lv_at hl 0 rfl) ?_
  refine va_get (D := D) (ci := 3) (v := .int (nI n)) (C := RX3) (T := TX3) (N := 32) hx hb hg us_X3 hown hK.1 hP 0 rfl rfl 1 (by decide) (hg _ gm_402) (fun _ h9 => h9) rfl dX3_day_1 ?_
  refine nv_if_ne (tgt := 10) hx hb dX3_day_4 (by omega) (by decide) (fun c_4 => ?_) (fun c_4 => ?_)
  · skip
    refine lv_aload_n hx hb dX3_day_10 rfl (lv_at hl 0 rfl) ?_
    refine va_get (D := D) (ci := 3) (v := .int (nI td)) (C := RX3) (T := TX3) (N := 32) hx hb hg us_X3 hown hK.1 hP 0 rfl rfl 6 (by decide) (hg _ gm_407) (fun _ h9 => h9) rfl dX3_day_11 ?_
    refine lv_bipush (v := (nI 30)) hx hb dX3_day_14 (by decide) ?_
    refine nv_icmp_ne (tgt := 22) hx hb dX3_day_16 (by omega) (by omega) (by decide) (fun c_16 => ?_) (fun c_16 => ?_)
    · skip
      refine lv_iconst (v := (nI 0)) hx hb dX3_day_22 (by decide) ?_
      refine lv_istore_n (lv' := [(1, .int (nI 0)), (0, .ref (b 0))]) hx hb dX3_day_23 rfl hl (by decide) rfl (fun ls hl => ?_)
      -- loop at 24
      refine loopW (nL := 2) (S := Unit) (B := n) (I := fun i u => True) (lv := fun i u => [(0, .ref (b 0)), (1, .int (nI i))]) (wf := fun i u => MW cI cB b st n td nd nh pl bs kd ag bo (paF ag pa td i) dm dn hh hn pg sv sd ik ks ktd knd knh kbs kag kbo kpa kdm kdn khh khn hf) 0 () (Nat.zero_le _) (trivial) (lv_sub hl [1, 0] rfl) (by show va_P D vwCl (MW cI cB b st n td nd nh pl bs kd ag bo (paF ag pa td 0) dm dn hh hn pg sv sd ik ks ktd knd knh kbs kag kbo kpa kdm kdn khh khn hf) H; rw [pa_0]; exact hP) (hD.addr rfl) hS (fun i u ls H locs hj hI hl hP hD hS ih => ?_)
      have hP : va_P D vwCl (MW cI cB b st n td nd nh pl bs kd ag bo (paF ag pa td i) dm dn hh hn pg sv sd ik ks ktd knd knh kbs kag kbo kpa kdm kdn khh khn hf) H := hP
      have hD : va_D A (MW cI cB b st n td nd nh pl bs kd ag bo (paF ag pa td i) dm dn hh hn pg sv sd ik ks ktd knd knh kbs kag kbo kpa kdm kdn khh khn hf) := hD
      have hl : lv_has ls 2 [(0, .ref (b 0)), (1, .int (nI i))] := hl
      have ih_24 := ih
      refine lv_iload_n hx hb dX3_day_24 rfl (lv_at hl 1 rfl) ?_
      refine lv_aload_n hx hb dX3_day_25 rfl (lv_at hl 0 rfl) ?_
      refine va_get (D := D) (ci := 3) (v := .int (nI n)) (C := RX3) (T := TX3) (N := 32) hx hb hg us_X3 hown hK.1 hP 0 rfl rfl 1 (by decide) (hg _ gm_402) (fun _ h9 => h9) rfl dX3_day_26 ?_
      refine nv_icmp_ge (tgt := 58) hx hb dX3_day_29 (by omega) (by omega) (by decide) (fun c_29 => ?_) (fun c_29 => ?_)
      · skip
        refine lv_aload_n hx hb dX3_day_58 rfl (lv_at hl 0 rfl) ?_
        refine wrVv (As := []) (rest := []) hx hb hml hown hg (c_X3_ageMore l D cI cB aS _ st n td nd nh pl bs kd ag bo (paF ag pa td i) dm dn hh hn pg sv sd ik ks ktd knd knh kbs kag kbo kpa kdm kdn khh khn hf (hD.weaken (fun _ _ _ _ => trivial)) (by first | assumption | omega)) gm_542 vf_X3_ageMore ⟨Nat.le_of_ble_eq_true rfl, Nat.le_of_ble_eq_true rfl⟩ ⟨rfl, rfl⟩ ⟨Nat.zero_le _, Nat.zero_le _⟩ (RP.preV hK hP (q0 := 0) (ci := 3) rfl rfl) rfl hl.1 rfl (Nat.le_of_ble_eq_true rfl) dX3_day_59 hS (inW_all hD) (fun u_1 H1 locs hpo_1 hP1 hk1 hS => ?_)
        have hP : va_P D vwCl (MW cI cB b st n td nd nh pl bs kd (groF kd ag n) bo (paF ag pa td i) dm dn hh hn pg sv sd ik ks ktd knd knh kbs kag kbo kpa kdm kdn khh khn hf) H1 := hP1
        have hD : va_D A (MW cI cB b st n td nd nh pl bs kd (groF kd ag n) bo (paF ag pa td i) dm dn hh hn pg sv sd ik ks ktd knd knh kbs kag kbo kpa kdm kdn khh khn hf) := hD.addr rfl
        clear hP1 hk1
        generalize H1 = H at hP hS ⊢
        refine lv_aload_n hx hb dX3_day_62 rfl (lv_at hl 0 rfl) ?_
        refine lv_dup hx hb dX3_day_63 rfl ?_
        refine va_get (D := D) (ci := 3) (v := .int (nI td)) (C := RX3) (T := TX3) (N := 32) hx hb hg us_X3 hown hK.1 hP 0 rfl rfl 6 (by decide) (hg _ gm_407) (fun _ h9 => h9) rfl dX3_day_64 ?_
        refine lv_iconst (v := (nI 1)) hx hb dX3_day_67 (by decide) ?_
        refine nv_iadd hx hb dX3_day_68 ?_
        refine va_put (D := D) (ci := 3) (v := .int (nI (td + 1))) (ty := .int) (C := RX3) (T := TX3) (N := 32) hx hb hg us_X3 tyX3 tyX3_ok nmX3 hown hK.1 hP hD hS 0 rfl rfl 6 (by decide) (hg _ gm_407) (fun _ h9 => h9) rfl (by decide +kernel) rfl rfl (Nat.le_of_ble_eq_true rfl) dX3_day_69 (fun H locs hP hD hS => ?_)
        have hP : va_P D vwCl (MW cI cB b st n (td + 1) nd nh pl bs kd (groF kd ag n) bo (paF ag pa td i) dm dn hh hn pg sv sd ik ks ktd knd knh kbs kag kbo kpa kdm kdn khh khn hf) H := hP
        have hD : va_D A (MW cI cB b st n (td + 1) nd nh pl bs kd (groF kd ag n) bo (paF ag pa td i) dm dn hh hn pg sv sd ik ks ktd knd knh kbs kag kbo kpa kdm kdn khh khn hf) := hD
        refine lv_aload_n hx hb dX3_day_72 rfl (lv_at hl 0 rfl) ?_
        refine va_get (D := D) (ci := 3) (v := .int (nI (td + 1))) (C := RX3) (T := TX3) (N := 32) hx hb hg us_X3 hown hK.1 hP 0 rfl rfl 6 (by decide) (hg _ gm_407) (fun _ h9 => h9) rfl dX3_day_73 ?_
        subst hAe
        exact wr_i (w1 := fun (u : (Nat → Int32) × (Nat → Int32) × Nat) => MW cI cB b st n u.2.2 nd nh pl bs kd u.1 bo u.2.1 dm dn hh hn pg sv sd ik ks ktd knd knh kbs kag kbo kpa kdm kdn khh khn hf) hx hb hr hlocks hS (groF kd ag n, paF ag pa td n, td + 1) (by rw [show i = n by omega] at hP; exact hP) dX3_day_76 (by unfold dayF; rw [if_neg c_4, if_neg c_16])
      · skip
        refine lv_aload_n hx hb dX3_day_32 rfl (lv_at hl 0 rfl) ?_
        refine va_get (D := D) (ci := 3) (v := .ref (b 4)) (C := RX3) (T := TX3) (N := 32) hx hb hg us_X3 hown hK.1 hP 0 rfl rfl 5 (by decide) (hg _ gm_406) (fun _ h9 => h9) rfl dX3_day_33 ?_
        refine lv_bipush (v := (nI 6)) hx hb dX3_day_36 (by decide) ?_
        refine lv_aload_n hx hb dX3_day_38 rfl (lv_at hl 0 rfl) ?_
        refine va_get (D := D) (ci := 3) (v := .int (nI td)) (C := RX3) (T := TX3) (N := 32) hx hb hg us_X3 hown hK.1 hP 0 rfl rfl 6 (by decide) (hg _ gm_407) (fun _ h9 => h9) rfl dX3_day_39 ?_
        refine nv_imul hx hb dX3_day_42 ?_
        refine lv_iload_n hx hb dX3_day_43 rfl (lv_at hl 1 rfl) ?_
        refine nv_iadd hx hb dX3_day_44 ?_
        refine lv_aload_n hx hb dX3_day_45 rfl (lv_at hl 0 rfl) ?_
        refine va_get (D := D) (ci := 3) (v := .ref (b 2)) (C := RX3) (T := TX3) (N := 32) hx hb hg us_X3 hown hK.1 hP 0 rfl rfl 3 (by decide) (hg _ gm_404) (fun _ h9 => h9) rfl dX3_day_46 ?_
        refine lv_iload_n hx hb dX3_day_49 rfl (lv_at hl 1 rfl) ?_
        refine nv_iald hx hb hK.1 hP 2 0 rfl rfl (by omega) (by decide) dX3_day_50 ?_
        refine nv_iast hx hb hK.1 hP hD hS 4 0 rfl rfl (by omega) (by decide) dX3_day_51 (fun H locs hP hD hS => ?_)
        have hP : va_P D vwCl (MW cI cB b st n td nd nh pl bs kd ag bo (upd (paF ag pa td i) (6 * td + i) (ag i)) dm dn hh hn pg sv sd ik ks ktd knd knh kbs kag kbo kpa kdm kdn khh khn hf) H := hP
        have hD : va_D A (MW cI cB b st n td nd nh pl bs kd ag bo (upd (paF ag pa td i) (6 * td + i) (ag i)) dm dn hh hn pg sv sd ik ks ktd knd knh kbs kag kbo kpa kdm kdn khh khn hf) := hD
        have e_2 : upd (paF ag pa td i) (6 * td + i) (ag i) = paF ag pa td (i + 1) := pa_s rfl
        rw [e_2] at hP hD
        have hP : va_P D vwCl (MW cI cB b st n td nd nh pl bs kd ag bo (paF ag pa td (i + 1)) dm dn hh hn pg sv sd ik ks ktd knd knh kbs kag kbo kpa kdm kdn khh khn hf) H := hP
        have hD : va_D A (MW cI cB b st n td nd nh pl bs kd ag bo (paF ag pa td (i + 1)) dm dn hh hn pg sv sd ik ks ktd knd knh kbs kag kbo kpa kdm kdn khh khn hf) := hD
        refine lv_iinc (v := (nI (i + 1))) (lv' := [(1, .int (nI (i + 1))), (0, .ref (b 0))]) hx hb dX3_day_52 hl (k := 1) rfl (nI_i1 _) (by decide) rfl (fun ls hl => ?_)
        refine lv_goto (tgt := 24) hx hb dX3_day_55 (by decide) ?_
        exact ih_24 () _ _ _ (by omega) (trivial) (lv_sub hl [1, 0] rfl) hP (hD.addr rfl) hS
    · skip
      refine lv_bipush (v := (-104)) hx hb dX3_day_19 (by decide) ?_
      subst hAe
      exact wr_i (w1 := fun (u : (Nat → Int32) × (Nat → Int32) × Nat) => MW cI cB b st n u.2.2 nd nh pl bs kd u.1 bo u.2.1 dm dn hh hn pg sv sd ik ks ktd knd knh kbs kag kbo kpa kdm kdn khh khn hf) hx hb hr hlocks hS (ag, pa, td) hP dX3_day_21 (by unfold dayF; rw [if_neg c_4, if_pos c_16])
  · skip
    refine lv_bipush (v := (-103)) hx hb dX3_day_7 (by decide) ?_
    subst hAe
    exact wr_i (w1 := fun (u : (Nat → Int32) × (Nat → Int32) × Nat) => MW cI cB b st n u.2.2 nd nh pl bs kd u.1 bo u.2.1 dm dn hh hn pg sv sd ik ks ktd knd knh kbs kag kbo kpa kdm kdn khh khn hf) hx hb hr hlocks hS (ag, pa, td) hP dX3_day_9 ((if_pos c_4).symm)
abbrev rm_X3_debt : Room := { frames := 1, cells := 0, slots := 0, locals := 22 }
set_option maxRecDepth 100000 in
set_option maxHeartbeats 4000000 in
theorem c_X3_debt (l : Launch) (D : va_G) (cI cB : ClassId) (aS : Nat) (b : Nat → Nat) (st n td nd nh pl : Nat) (bs : Int32) (kd ag bo pa dm dn hh hn pg sv : Nat → Int32) (sd : Int64) (ik : Int32) (ks ktd knd knh : Nat) (kbs : Int32) (kag kbo kpa kdm kdn khh khn : Nat → Int32) (hf : Int64) (x y : Int32) (hD0 : va_D (fun _ => True) (MW cI cB b st n td nd nh pl bs kd ag bo pa dm dn hh hn pg sv sd ik ks ktd knd knh kbs kag kbo kpa kdm kdn khh khn hf)) (qnd : nd ≤ 6) (hn6 : n ≤ 6) : Met l yX3_debt (mw yX3_debt cX3_debt 3 (some .int)) rm_X3_debt (RP D cI cB aS (MW cI cB b st n td nd nh pl bs kd ag bo pa dm dn hh hn pg sv sd ik ks ktd knd knh kbs kag kbo kpa kdm kdn khh khn hf) [.ref (b 0), .int x, .int y]) (wq mkI (MW cI cB b st n td nd nh pl bs kd ag bo pa dm dn hh hn pg sv sd ik ks ktd knd knh kbs kag kbo kpa kdm kdn khh khn hf) (fun (u : (Nat → Int32) × (Nat → Int32) × Nat) => MW cI cB b st n td u.2.2 nh pl bs kd ag bo pa u.1 u.2.1 hh hn pg sv sd ik ks ktd knd knh kbs kag kbo kpa kdm kdn khh khn hf) D (fun (r : Int32) (u : (Nat → Int32) × (Nat → Int32) × Nat) => (r, u) = debF n nd dm dn x y)) 0 0 (inW (MW cI cB b st n td nd nh pl bs kd ag bo pa dm dn hh hn pg sv sd ik ks ktd knd knh kbs kag kbo kpa kdm kdn khh khn hf)) := by
  refine met_of (by decide) (Nat.le_of_ble_eq_true rfl) ?_
  intro p e s m below meth c ls hx hb hr hml hown hg hlocks hin hK hP hl
  have hown : s.vm.findClass RX3 = some m.cls := hown
  have hl : lv_has ls 3 [(0, .ref (b 0)), (1, .int x), (2, .int y)] := hl
  have hD := hD0.here
  have hS0 : va_S (inW (MW cI cB b st n td nd nh pl bs kd ag bo pa dm dn hh hn pg sv sd ik ks ktd knd knh kbs kag kbo kpa kdm kdn khh khn hf)) s.heap s.heap [] := va_S.rf
  obtain ⟨H, hH⟩ : ∃ H, H = s.heap := ⟨_, rfl⟩
  have hS : va_S (inW (MW cI cB b st n td nd nh pl bs kd ag bo pa dm dn hh hn pg sv sd ik ks ktd knd knh kbs kag kbo kpa kdm kdn khh khn hf)) s.heap H [] := by rw [hH]; exact hS0
  clear hS0
  rw [← hH] at hP ⊢
  generalize hAe : inW (MW cI cB b st n td nd nh pl bs kd ag bo pa dm dn hh hn pg sv sd ik ks ktd knd knh kbs kag kbo kpa kdm kdn khh khn hf) = A at hD hS ⊢
  refine lv_iload_n hx hb dX3_debt_0 rfl (lv_at hl 1 rfl) ?_
  refine lv_iconst (v := (nI 1)) hx hb dX3_debt_1 (by decide) ?_
  refine lv_bipush (v := (nI 9)) hx hb dX3_debt_2 (by decide) ?_
  refine rdS (As := [.int x, .int (nI 1), .int (nI 9)]) (rest := []) hx hb hml hown hg (c_X3_within l D cI cB aS x (nI 1) (nI 9)) gm_469 sf_X3_within ⟨Nat.le_of_ble_eq_true rfl, Nat.le_of_ble_eq_true rfl⟩ ⟨rfl, rfl⟩ ⟨Nat.zero_le _, Nat.zero_le _⟩ (RP.preS hK (fun k q h => by simp at h)) rfl hl.1 rfl (Nat.le_of_ble_eq_true rfl) dX3_debt_4 ?_
  refine bv_if_eq (tgt := 20) hx hb dX3_debt_7 (by decide) (fun c_7 => ?_) (fun c_7 => ?_)
  · skip
    refine lv_bipush (v := (-102)) hx hb dX3_debt_20 (by decide) ?_
    subst hAe
    exact wr_i (w1 := fun (u : (Nat → Int32) × (Nat → Int32) × Nat) => MW cI cB b st n td u.2.2 nh pl bs kd ag bo pa u.1 u.2.1 hh hn pg sv sd ik ks ktd knd knh kbs kag kbo kpa kdm kdn khh khn hf) hx hb hr hlocks hS (dm, dn, nd) hP dX3_debt_22 ((if_neg (fun q => c_7 q.1)).symm)
  · skip
    refine lv_iload_n hx hb dX3_debt_10 rfl (lv_at hl 2 rfl) ?_
    refine lv_iconst (v := (nI 0)) hx hb dX3_debt_11 (by decide) ?_
    refine lv_bipush (v := (nI 99)) hx hb dX3_debt_12 (by decide) ?_
    refine rdS (As := [.int y, .int (nI 0), .int (nI 99)]) (rest := []) hx hb hml hown hg (c_X3_within l D cI cB aS y (nI 0) (nI 99)) gm_469 sf_X3_within ⟨Nat.le_of_ble_eq_true rfl, Nat.le_of_ble_eq_true rfl⟩ ⟨rfl, rfl⟩ ⟨Nat.zero_le _, Nat.zero_le _⟩ (RP.preS hK (fun k q h => by simp at h)) rfl hl.1 rfl (Nat.le_of_ble_eq_true rfl) dX3_debt_14 ?_
    refine bv_if_ne (tgt := 23) hx hb dX3_debt_17 (by decide) (fun c_17 => ?_) (fun c_17 => ?_)
    · skip
      refine lv_aload_n hx hb dX3_debt_23 rfl (lv_at hl 0 rfl) ?_
      refine va_get (D := D) (ci := 3) (v := .int (nI n)) (C := RX3) (T := TX3) (N := 32) hx hb hg us_X3 hown hK.1 hP 0 rfl rfl 1 (by decide) (hg _ gm_402) (fun _ h9 => h9) rfl dX3_debt_24 ?_
      refine nv_if_ne (tgt := 33) hx hb dX3_debt_27 (by omega) (by decide) (fun c_27 => ?_) (fun c_27 => ?_)
      · skip
        refine lv_aload_n hx hb dX3_debt_33 rfl (lv_at hl 0 rfl) ?_
        refine va_get (D := D) (ci := 3) (v := .int (nI nd)) (C := RX3) (T := TX3) (N := 32) hx hb hg us_X3 hown hK.1 hP 0 rfl rfl 8 (by decide) (hg _ gm_409) (fun _ h9 => h9) rfl dX3_debt_34 ?_
        refine lv_bipush (v := (nI 6)) hx hb dX3_debt_37 (by decide) ?_
        refine nv_icmp_ne (tgt := 45) hx hb dX3_debt_39 (by omega) (by omega) (by decide) (fun c_39 => ?_) (fun c_39 => ?_)
        · skip
          refine lv_aload_n hx hb dX3_debt_45 rfl (lv_at hl 0 rfl) ?_
          refine va_get (D := D) (ci := 3) (v := .ref (b 5)) (C := RX3) (T := TX3) (N := 32) hx hb hg us_X3 hown hK.1 hP 0 rfl rfl 9 (by decide) (hg _ gm_410) (fun _ h9 => h9) rfl dX3_debt_46 ?_
          refine lv_aload_n hx hb dX3_debt_49 rfl (lv_at hl 0 rfl) ?_
          refine va_get (D := D) (ci := 3) (v := .int (nI nd)) (C := RX3) (T := TX3) (N := 32) hx hb hg us_X3 hown hK.1 hP 0 rfl rfl 8 (by decide) (hg _ gm_409) (fun _ h9 => h9) rfl dX3_debt_50 ?_
          refine lv_iload_n hx hb dX3_debt_53 rfl (lv_at hl 1 rfl) ?_
          refine nv_iast hx hb hK.1 hP hD hS 5 0 rfl rfl (by omega) (by decide) dX3_debt_54 (fun H locs hP hD hS => ?_)
          have hP : va_P D vwCl (MW cI cB b st n td nd nh pl bs kd ag bo pa (upd dm nd x) dn hh hn pg sv sd ik ks ktd knd knh kbs kag kbo kpa kdm kdn khh khn hf) H := hP
          have hD : va_D A (MW cI cB b st n td nd nh pl bs kd ag bo pa (upd dm nd x) dn hh hn pg sv sd ik ks ktd knd knh kbs kag kbo kpa kdm kdn khh khn hf) := hD
          refine lv_aload_n hx hb dX3_debt_55 rfl (lv_at hl 0 rfl) ?_
          refine va_get (D := D) (ci := 3) (v := .ref (b 6)) (C := RX3) (T := TX3) (N := 32) hx hb hg us_X3 hown hK.1 hP 0 rfl rfl 10 (by decide) (hg _ gm_411) (fun _ h9 => h9) rfl dX3_debt_56 ?_
          refine lv_aload_n hx hb dX3_debt_59 rfl (lv_at hl 0 rfl) ?_
          refine va_get (D := D) (ci := 3) (v := .int (nI nd)) (C := RX3) (T := TX3) (N := 32) hx hb hg us_X3 hown hK.1 hP 0 rfl rfl 8 (by decide) (hg _ gm_409) (fun _ h9 => h9) rfl dX3_debt_60 ?_
          refine lv_iload_n hx hb dX3_debt_63 rfl (lv_at hl 2 rfl) ?_
          refine nv_iast hx hb hK.1 hP hD hS 6 0 rfl rfl (by omega) (by decide) dX3_debt_64 (fun H locs hP hD hS => ?_)
          have hP : va_P D vwCl (MW cI cB b st n td nd nh pl bs kd ag bo pa (upd dm nd x) (upd dn nd y) hh hn pg sv sd ik ks ktd knd knh kbs kag kbo kpa kdm kdn khh khn hf) H := hP
          have hD : va_D A (MW cI cB b st n td nd nh pl bs kd ag bo pa (upd dm nd x) (upd dn nd y) hh hn pg sv sd ik ks ktd knd knh kbs kag kbo kpa kdm kdn khh khn hf) := hD
          refine lv_aload_n hx hb dX3_debt_65 rfl (lv_at hl 0 rfl) ?_
          refine lv_dup hx hb dX3_debt_66 rfl ?_
          refine va_get (D := D) (ci := 3) (v := .int (nI nd)) (C := RX3) (T := TX3) (N := 32) hx hb hg us_X3 hown hK.1 hP 0 rfl rfl 8 (by decide) (hg _ gm_409) (fun _ h9 => h9) rfl dX3_debt_67 ?_
          refine lv_iconst (v := (nI 1)) hx hb dX3_debt_70 (by decide) ?_
          refine nv_iadd hx hb dX3_debt_71 ?_
          refine va_put (D := D) (ci := 3) (v := .int (nI (nd + 1))) (ty := .int) (C := RX3) (T := TX3) (N := 32) hx hb hg us_X3 tyX3 tyX3_ok nmX3 hown hK.1 hP hD hS 0 rfl rfl 8 (by decide) (hg _ gm_409) (fun _ h9 => h9) rfl (by decide +kernel) rfl rfl (Nat.le_of_ble_eq_true rfl) dX3_debt_72 (fun H locs hP hD hS => ?_)
          have hP : va_P D vwCl (MW cI cB b st n td (nd + 1) nh pl bs kd ag bo pa (upd dm nd x) (upd dn nd y) hh hn pg sv sd ik ks ktd knd knh kbs kag kbo kpa kdm kdn khh khn hf) H := hP
          have hD : va_D A (MW cI cB b st n td (nd + 1) nh pl bs kd ag bo pa (upd dm nd x) (upd dn nd y) hh hn pg sv sd ik ks ktd knd knh kbs kag kbo kpa kdm kdn khh khn hf) := hD
          refine lv_aload_n hx hb dX3_debt_75 rfl (lv_at hl 0 rfl) ?_
          refine va_get (D := D) (ci := 3) (v := .int (nI (nd + 1))) (C := RX3) (T := TX3) (N := 32) hx hb hg us_X3 hown hK.1 hP 0 rfl rfl 8 (by decide) (hg _ gm_409) (fun _ h9 => h9) rfl dX3_debt_76 ?_
          subst hAe
          exact wr_i (w1 := fun (u : (Nat → Int32) × (Nat → Int32) × Nat) => MW cI cB b st n td u.2.2 nh pl bs kd ag bo pa u.1 u.2.1 hh hn pg sv sd ik ks ktd knd knh kbs kag kbo kpa kdm kdn khh khn hf) hx hb hr hlocks hS (upd dm nd x, upd dn nd y, nd + 1) hP dX3_debt_79 (by unfold debF; rw [if_pos ⟨c_7, c_17⟩, if_neg c_27, if_neg c_39])
        · skip
          refine lv_bipush (v := (-104)) hx hb dX3_debt_42 (by decide) ?_
          subst hAe
          exact wr_i (w1 := fun (u : (Nat → Int32) × (Nat → Int32) × Nat) => MW cI cB b st n td u.2.2 nh pl bs kd ag bo pa u.1 u.2.1 hh hn pg sv sd ik ks ktd knd knh kbs kag kbo kpa kdm kdn khh khn hf) hx hb hr hlocks hS (dm, dn, nd) hP dX3_debt_44 (by unfold debF; rw [if_pos ⟨c_7, c_17⟩, if_neg c_27, if_pos c_39])
      · skip
        refine lv_bipush (v := (-103)) hx hb dX3_debt_30 (by decide) ?_
        subst hAe
        exact wr_i (w1 := fun (u : (Nat → Int32) × (Nat → Int32) × Nat) => MW cI cB b st n td u.2.2 nh pl bs kd ag bo pa u.1 u.2.1 hh hn pg sv sd ik ks ktd knd knh kbs kag kbo kpa kdm kdn khh khn hf) hx hb hr hlocks hS (dm, dn, nd) hP dX3_debt_32 (by unfold debF; rw [if_pos ⟨c_7, c_17⟩, if_pos c_27])
    · skip
      refine lv_bipush (v := (-102)) hx hb dX3_debt_20 (by decide) ?_
      subst hAe
      exact wr_i (w1 := fun (u : (Nat → Int32) × (Nat → Int32) × Nat) => MW cI cB b st n td u.2.2 nh pl bs kd ag bo pa u.1 u.2.1 hh hn pg sv sd ik ks ktd knd knh kbs kag kbo kpa kdm kdn khh khn hf) hx hb hr hlocks hS (dm, dn, nd) hP dX3_debt_22 ((if_neg (fun q => c_17 q.2)).symm)
abbrev rm_X3_hear : Room := { frames := 2, cells := 0, slots := 0, locals := 43 }
set_option maxRecDepth 100000 in
set_option maxHeartbeats 4000000 in
theorem c_X3_hear (l : Launch) (D : va_G) (cI cB : ClassId) (aS : Nat) (b : Nat → Nat) (st n td nd nh pl : Nat) (bs : Int32) (kd ag bo pa dm dn hh hn pg sv : Nat → Int32) (sd : Int64) (ik : Int32) (ks ktd knd knh : Nat) (kbs : Int32) (kag kbo kpa kdm kdn khh khn : Nat → Int32) (hf : Int64) (x y : Int32) (hD0 : va_D (fun _ => True) (MW cI cB b st n td nd nh pl bs kd ag bo pa dm dn hh hn pg sv sd ik ks ktd knd knh kbs kag kbo kpa kdm kdn khh khn hf)) (qnh : nh ≤ 6) (hn6 : n ≤ 6) : Met l yX3_hear (mw yX3_hear cX3_hear 3 (some .int)) rm_X3_hear (RP D cI cB aS (MW cI cB b st n td nd nh pl bs kd ag bo pa dm dn hh hn pg sv sd ik ks ktd knd knh kbs kag kbo kpa kdm kdn khh khn hf) [.ref (b 0), .int x, .int y]) (wq mkI (MW cI cB b st n td nd nh pl bs kd ag bo pa dm dn hh hn pg sv sd ik ks ktd knd knh kbs kag kbo kpa kdm kdn khh khn hf) (fun (u : (Nat → Int32) × (Nat → Int32) × Nat) => MW cI cB b st n td nd u.2.2 pl bs kd ag bo pa dm dn u.1 u.2.1 pg sv sd ik ks ktd knd knh kbs kag kbo kpa kdm kdn khh khn hf) D (fun (r : Int32) (u : (Nat → Int32) × (Nat → Int32) × Nat) => (r, u) = heaF n nh hh hn x y)) 0 0 (inW (MW cI cB b st n td nd nh pl bs kd ag bo pa dm dn hh hn pg sv sd ik ks ktd knd knh kbs kag kbo kpa kdm kdn khh khn hf)) := by
  refine met_of (by decide) (Nat.le_of_ble_eq_true rfl) ?_
  intro p e s m below meth c ls hx hb hr hml hown hg hlocks hin hK hP hl
  have hown : s.vm.findClass RX3 = some m.cls := hown
  have hl : lv_has ls 3 [(0, .ref (b 0)), (1, .int x), (2, .int y)] := hl
  have hD := hD0.here
  have hS0 : va_S (inW (MW cI cB b st n td nd nh pl bs kd ag bo pa dm dn hh hn pg sv sd ik ks ktd knd knh kbs kag kbo kpa kdm kdn khh khn hf)) s.heap s.heap [] := va_S.rf
  obtain ⟨H, hH⟩ : ∃ H, H = s.heap := ⟨_, rfl⟩
  have hS : va_S (inW (MW cI cB b st n td nd nh pl bs kd ag bo pa dm dn hh hn pg sv sd ik ks ktd knd knh kbs kag kbo kpa kdm kdn khh khn hf)) s.heap H [] := by rw [hH]; exact hS0
  clear hS0
  rw [← hH] at hP ⊢
  generalize hAe : inW (MW cI cB b st n td nd nh pl bs kd ag bo pa dm dn hh hn pg sv sd ik ks ktd knd knh kbs kag kbo kpa kdm kdn khh khn hf) = A at hD hS ⊢
  refine lv_aload_n hx hb dX3_hear_0 rfl (lv_at hl 0 rfl) ?_
  refine lv_iload_n hx hb dX3_hear_1 rfl (lv_at hl 1 rfl) ?_
  refine rdV (As := [.int x]) (rest := []) hx hb hml hown hg (c_X3_isHouse l D cI cB aS _ st n td nd nh pl bs kd ag bo pa dm dn hh hn pg sv sd ik ks ktd knd knh kbs kag kbo kpa kdm kdn khh khn hf x (by first | assumption | omega)) gm_497 vf_X3_isHouse ⟨Nat.le_of_ble_eq_true rfl, Nat.le_of_ble_eq_true rfl⟩ ⟨rfl, rfl⟩ ⟨Nat.zero_le _, Nat.zero_le _⟩ (RP.preV hK hP (q0 := 0) (ci := 3) rfl rfl) rfl hl.1 rfl (Nat.le_of_ble_eq_true rfl) dX3_hear_2 ?_
  refine bv_if_ne (tgt := 11) hx hb dX3_hear_5 (by decide) (fun c_5 => ?_) (fun c_5 => ?_)
  · skip
    refine lv_iload_n hx hb dX3_hear_11 rfl (lv_at hl 2 rfl) ?_
    refine lv_iconst (v := (nI 0)) hx hb dX3_hear_12 (by decide) ?_
    refine lv_bipush (v := (nI 99)) hx hb dX3_hear_13 (by decide) ?_
    refine rdS (As := [.int y, .int (nI 0), .int (nI 99)]) (rest := []) hx hb hml hown hg (c_X3_within l D cI cB aS y (nI 0) (nI 99)) gm_469 sf_X3_within ⟨Nat.le_of_ble_eq_true rfl, Nat.le_of_ble_eq_true rfl⟩ ⟨rfl, rfl⟩ ⟨Nat.zero_le _, Nat.zero_le _⟩ (RP.preS hK (fun k q h => by simp at h)) rfl hl.1 rfl (Nat.le_of_ble_eq_true rfl) dX3_hear_15 ?_
    refine bv_if_ne (tgt := 24) hx hb dX3_hear_18 (by decide) (fun c_18 => ?_) (fun c_18 => ?_)
    · skip
      refine lv_aload_n hx hb dX3_hear_24 rfl (lv_at hl 0 rfl) ?_
      refine va_get (D := D) (ci := 3) (v := .int (nI nh)) (C := RX3) (T := TX3) (N := 32) hx hb hg us_X3 hown hK.1 hP 0 rfl rfl 11 (by decide) (hg _ gm_412) (fun _ h9 => h9) rfl dX3_hear_25 ?_
      refine lv_bipush (v := (nI 6)) hx hb dX3_hear_28 (by decide) ?_
      refine nv_icmp_ne (tgt := 36) hx hb dX3_hear_30 (by omega) (by omega) (by decide) (fun c_30 => ?_) (fun c_30 => ?_)
      · skip
        refine lv_aload_n hx hb dX3_hear_36 rfl (lv_at hl 0 rfl) ?_
        refine va_get (D := D) (ci := 3) (v := .ref (b 7)) (C := RX3) (T := TX3) (N := 32) hx hb hg us_X3 hown hK.1 hP 0 rfl rfl 12 (by decide) (hg _ gm_413) (fun _ h9 => h9) rfl dX3_hear_37 ?_
        refine lv_aload_n hx hb dX3_hear_40 rfl (lv_at hl 0 rfl) ?_
        refine va_get (D := D) (ci := 3) (v := .int (nI nh)) (C := RX3) (T := TX3) (N := 32) hx hb hg us_X3 hown hK.1 hP 0 rfl rfl 11 (by decide) (hg _ gm_412) (fun _ h9 => h9) rfl dX3_hear_41 ?_
        refine lv_iload_n hx hb dX3_hear_44 rfl (lv_at hl 1 rfl) ?_
        refine nv_iast hx hb hK.1 hP hD hS 7 0 rfl rfl (by omega) (by decide) dX3_hear_45 (fun H locs hP hD hS => ?_)
        have hP : va_P D vwCl (MW cI cB b st n td nd nh pl bs kd ag bo pa dm dn (upd hh nh x) hn pg sv sd ik ks ktd knd knh kbs kag kbo kpa kdm kdn khh khn hf) H := hP
        have hD : va_D A (MW cI cB b st n td nd nh pl bs kd ag bo pa dm dn (upd hh nh x) hn pg sv sd ik ks ktd knd knh kbs kag kbo kpa kdm kdn khh khn hf) := hD
        refine lv_aload_n hx hb dX3_hear_46 rfl (lv_at hl 0 rfl) ?_
        refine va_get (D := D) (ci := 3) (v := .ref (b 8)) (C := RX3) (T := TX3) (N := 32) hx hb hg us_X3 hown hK.1 hP 0 rfl rfl 13 (by decide) (hg _ gm_414) (fun _ h9 => h9) rfl dX3_hear_47 ?_
        refine lv_aload_n hx hb dX3_hear_50 rfl (lv_at hl 0 rfl) ?_
        refine va_get (D := D) (ci := 3) (v := .int (nI nh)) (C := RX3) (T := TX3) (N := 32) hx hb hg us_X3 hown hK.1 hP 0 rfl rfl 11 (by decide) (hg _ gm_412) (fun _ h9 => h9) rfl dX3_hear_51 ?_
        refine lv_iload_n hx hb dX3_hear_54 rfl (lv_at hl 2 rfl) ?_
        refine nv_iast hx hb hK.1 hP hD hS 8 0 rfl rfl (by omega) (by decide) dX3_hear_55 (fun H locs hP hD hS => ?_)
        have hP : va_P D vwCl (MW cI cB b st n td nd nh pl bs kd ag bo pa dm dn (upd hh nh x) (upd hn nh y) pg sv sd ik ks ktd knd knh kbs kag kbo kpa kdm kdn khh khn hf) H := hP
        have hD : va_D A (MW cI cB b st n td nd nh pl bs kd ag bo pa dm dn (upd hh nh x) (upd hn nh y) pg sv sd ik ks ktd knd knh kbs kag kbo kpa kdm kdn khh khn hf) := hD
        refine lv_aload_n hx hb dX3_hear_56 rfl (lv_at hl 0 rfl) ?_
        refine lv_dup hx hb dX3_hear_57 rfl ?_
        refine va_get (D := D) (ci := 3) (v := .int (nI nh)) (C := RX3) (T := TX3) (N := 32) hx hb hg us_X3 hown hK.1 hP 0 rfl rfl 11 (by decide) (hg _ gm_412) (fun _ h9 => h9) rfl dX3_hear_58 ?_
        refine lv_iconst (v := (nI 1)) hx hb dX3_hear_61 (by decide) ?_
        refine nv_iadd hx hb dX3_hear_62 ?_
        refine va_put (D := D) (ci := 3) (v := .int (nI (nh + 1))) (ty := .int) (C := RX3) (T := TX3) (N := 32) hx hb hg us_X3 tyX3 tyX3_ok nmX3 hown hK.1 hP hD hS 0 rfl rfl 11 (by decide) (hg _ gm_412) (fun _ h9 => h9) rfl (by decide +kernel) rfl rfl (Nat.le_of_ble_eq_true rfl) dX3_hear_63 (fun H locs hP hD hS => ?_)
        have hP : va_P D vwCl (MW cI cB b st n td nd (nh + 1) pl bs kd ag bo pa dm dn (upd hh nh x) (upd hn nh y) pg sv sd ik ks ktd knd knh kbs kag kbo kpa kdm kdn khh khn hf) H := hP
        have hD : va_D A (MW cI cB b st n td nd (nh + 1) pl bs kd ag bo pa dm dn (upd hh nh x) (upd hn nh y) pg sv sd ik ks ktd knd knh kbs kag kbo kpa kdm kdn khh khn hf) := hD
        refine lv_aload_n hx hb dX3_hear_66 rfl (lv_at hl 0 rfl) ?_
        refine va_get (D := D) (ci := 3) (v := .int (nI (nh + 1))) (C := RX3) (T := TX3) (N := 32) hx hb hg us_X3 hown hK.1 hP 0 rfl rfl 11 (by decide) (hg _ gm_412) (fun _ h9 => h9) rfl dX3_hear_67 ?_
        subst hAe
        exact wr_i (w1 := fun (u : (Nat → Int32) × (Nat → Int32) × Nat) => MW cI cB b st n td nd u.2.2 pl bs kd ag bo pa dm dn u.1 u.2.1 pg sv sd ik ks ktd knd knh kbs kag kbo kpa kdm kdn khh khn hf) hx hb hr hlocks hS (upd hh nh x, upd hn nh y, nh + 1) hP dX3_hear_70 (by unfold heaF; rw [if_pos c_5, if_pos c_18, if_neg c_30])
      · skip
        refine lv_bipush (v := (-104)) hx hb dX3_hear_33 (by decide) ?_
        subst hAe
        exact wr_i (w1 := fun (u : (Nat → Int32) × (Nat → Int32) × Nat) => MW cI cB b st n td nd u.2.2 pl bs kd ag bo pa dm dn u.1 u.2.1 pg sv sd ik ks ktd knd knh kbs kag kbo kpa kdm kdn khh khn hf) hx hb hr hlocks hS (hh, hn, nh) hP dX3_hear_35 (by unfold heaF; rw [if_pos c_5, if_pos c_18, if_pos c_30])
    · skip
      refine lv_bipush (v := (-102)) hx hb dX3_hear_21 (by decide) ?_
      subst hAe
      exact wr_i (w1 := fun (u : (Nat → Int32) × (Nat → Int32) × Nat) => MW cI cB b st n td nd u.2.2 pl bs kd ag bo pa dm dn u.1 u.2.1 pg sv sd ik ks ktd knd knh kbs kag kbo kpa kdm kdn khh khn hf) hx hb hr hlocks hS (hh, hn, nh) hP dX3_hear_23 (by unfold heaF; rw [if_pos c_5, if_neg c_18])
  · skip
    refine lv_bipush (v := (-101)) hx hb dX3_hear_8 (by decide) ?_
    subst hAe
    exact wr_i (w1 := fun (u : (Nat → Int32) × (Nat → Int32) × Nat) => MW cI cB b st n td nd u.2.2 pl bs kd ag bo pa dm dn u.1 u.2.1 pg sv sd ik ks ktd knd knh kbs kag kbo kpa kdm kdn khh khn hf) hx hb hr hlocks hS (hh, hn, nh) hP dX3_hear_10 ((if_neg c_5).symm)
end
