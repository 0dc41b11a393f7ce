section
-- ===== PART A: goes FIRST, ahead of the names: the tables' words, and 'selects' of the private methods out of them =====
/-- a private method of a class that the tables say can be made, by its rows of tables_1 -/
def lw_okq (q : MethodName × Nat) : Prop := (q.1.cls ≠ "java/lang/invoke/MethodHandle" ∧ q.1.cls ≠ "java/lang/invoke/VarHandle") ∧ Cond.instantiable q.1.cls q.2 ∈ tables_1 ∧ Cond.privateMethod q.1 ∈ tables_1 ∧ Cond.instanceMethod q.1 ∈ tables_1
theorem lw_p0 : lw_okq (⟨"BirthStreet", "housesOnPage", "()I"⟩, 11) := ⟨⟨by decide +kernel, by decide +kernel⟩, List.mem_of_getElem? (i := 12) (by decide +kernel), List.mem_of_getElem? (i := 198) (by decide +kernel), List.mem_of_getElem? (i := 199) (by decide +kernel)⟩
theorem lw_p1 : lw_okq (⟨"BirthStreet", "isHouse", "(I)Z"⟩, 11) := ⟨⟨by decide +kernel, by decide +kernel⟩, List.mem_of_getElem? (i := 12) (by decide +kernel), List.mem_of_getElem? (i := 215) (by decide +kernel), List.mem_of_getElem? (i := 216) (by decide +kernel)⟩
theorem lw_p2 : lw_okq (⟨"BirthStreet", "numberNow", "(I)I"⟩, 11) := ⟨⟨by decide +kernel, by decide +kernel⟩, List.mem_of_getElem? (i := 12) (by decide +kernel), List.mem_of_getElem? (i := 219) (by decide +kernel), List.mem_of_getElem? (i := 220) (by decide +kernel)⟩
theorem lw_p3 : lw_okq (⟨"BirthStreet", "numberAt", "(LBirthStreet$Row;I)I"⟩, 11) := ⟨⟨by decide +kernel, by decide +kernel⟩, List.mem_of_getElem? (i := 12) (by decide +kernel), List.mem_of_getElem? (i := 223) (by decide +kernel), List.mem_of_getElem? (i := 224) (by decide +kernel)⟩
theorem lw_p4 : lw_okq (⟨"BirthStreet", "owedBy", "(I)I"⟩, 11) := ⟨⟨by decide +kernel, by decide +kernel⟩, List.mem_of_getElem? (i := 12) (by decide +kernel), List.mem_of_getElem? (i := 230) (by decide +kernel), List.mem_of_getElem? (i := 231) (by decide +kernel)⟩
theorem lw_p5 : lw_okq (⟨"BirthStreet", "houseWith", "(II)I"⟩, 11) := ⟨⟨by decide +kernel, by decide +kernel⟩, List.mem_of_getElem? (i := 12) (by decide +kernel), List.mem_of_getElem? (i := 234) (by decide +kernel), List.mem_of_getElem? (i := 235) (by decide +kernel)⟩
theorem lw_p6 : lw_okq (⟨"BirthStreet", "numberOn", "(II)I"⟩, 11) := ⟨⟨by decide +kernel, by decide +kernel⟩, List.mem_of_getElem? (i := 12) (by decide +kernel), List.mem_of_getElem? (i := 238) (by decide +kernel), List.mem_of_getElem? (i := 239) (by decide +kernel)⟩
theorem lw_p7 : lw_okq (⟨"BirthStreet", "turnInWalk", "(LBirthStreet$Row;I)I"⟩, 11) := ⟨⟨by decide +kernel, by decide +kernel⟩, List.mem_of_getElem? (i := 12) (by decide +kernel), List.mem_of_getElem? (i := 245) (by decide +kernel), List.mem_of_getElem? (i := 246) (by decide +kernel)⟩
theorem lw_p8 : lw_okq (⟨"BirthStreet", "bear", "(LBirthStreet$Row;I)V"⟩, 11) := ⟨⟨by decide +kernel, by decide +kernel⟩, List.mem_of_getElem? (i := 12) (by decide +kernel), List.mem_of_getElem? (i := 260) (by decide +kernel), List.mem_of_getElem? (i := 261) (by decide +kernel)⟩
theorem lw_p9 : lw_okq (⟨"BirthStreet", "lendsACradle", "(I)Z"⟩, 11) := ⟨⟨by decide +kernel, by decide +kernel⟩, List.mem_of_getElem? (i := 12) (by decide +kernel), List.mem_of_getElem? (i := 264) (by decide +kernel), List.mem_of_getElem? (i := 265) (by decide +kernel)⟩
theorem lw_p10 : lw_okq (⟨"BirthStreet", "growOlder", "(LBirthStreet$Row;)V"⟩, 11) := ⟨⟨by decide +kernel, by decide +kernel⟩, List.mem_of_getElem? (i := 12) (by decide +kernel), List.mem_of_getElem? (i := 278) (by decide +kernel), List.mem_of_getElem? (i := 279) (by decide +kernel)⟩
theorem lw_p11 : lw_okq (⟨"BirthStreet", "isDay", "(I)Z"⟩, 11) := ⟨⟨by decide +kernel, by decide +kernel⟩, List.mem_of_getElem? (i := 12) (by decide +kernel), List.mem_of_getElem? (i := 289) (by decide +kernel), List.mem_of_getElem? (i := 290) (by decide +kernel)⟩
theorem lw_p12 : lw_okq (⟨"BirthStreet", "lengthOfWalk", "(LBirthStreet$Row;)I"⟩, 11) := ⟨⟨by decide +kernel, by decide +kernel⟩, List.mem_of_getElem? (i := 12) (by decide +kernel), List.mem_of_getElem? (i := 301) (by decide +kernel), List.mem_of_getElem? (i := 302) (by decide +kernel)⟩
theorem lw_p13 : lw_okq (⟨"BirthStreet", "houseOfTurn", "(LBirthStreet$Row;I)I"⟩, 11) := ⟨⟨by decide +kernel, by decide +kernel⟩, List.mem_of_getElem? (i := 12) (by decide +kernel), List.mem_of_getElem? (i := 305) (by decide +kernel), List.mem_of_getElem? (i := 306) (by decide +kernel)⟩
theorem lw_p14 : lw_okq (⟨"BirthStreet", "cheapestSet", "(I)I"⟩, 11) := ⟨⟨by decide +kernel, by decide +kernel⟩, List.mem_of_getElem? (i := 12) (by decide +kernel), List.mem_of_getElem? (i := 324) (by decide +kernel), List.mem_of_getElem? (i := 325) (by decide +kernel)⟩
theorem lw_p15 : lw_okq (⟨"BirthStreet", "mayAllBear", "(I)Z"⟩, 11) := ⟨⟨by decide +kernel, by decide +kernel⟩, List.mem_of_getElem? (i := 12) (by decide +kernel), List.mem_of_getElem? (i := 334) (by decide +kernel), List.mem_of_getElem? (i := 335) (by decide +kernel)⟩
def lw_privs_1 : List (MethodName × Nat) := [(⟨"BirthStreet", "housesOnPage", "()I"⟩, 11), (⟨"BirthStreet", "isHouse", "(I)Z"⟩, 11), (⟨"BirthStreet", "numberNow", "(I)I"⟩, 11), (⟨"BirthStreet", "numberAt", "(LBirthStreet$Row;I)I"⟩, 11), (⟨"BirthStreet", "owedBy", "(I)I"⟩, 11), (⟨"BirthStreet", "houseWith", "(II)I"⟩, 11), (⟨"BirthStreet", "numberOn", "(II)I"⟩, 11), (⟨"BirthStreet", "turnInWalk", "(LBirthStreet$Row;I)I"⟩, 11), (⟨"BirthStreet", "bear", "(LBirthStreet$Row;I)V"⟩, 11), (⟨"BirthStreet", "lendsACradle", "(I)Z"⟩, 11), (⟨"BirthStreet", "growOlder", "(LBirthStreet$Row;)V"⟩, 11), (⟨"BirthStreet", "isDay", "(I)Z"⟩, 11), (⟨"BirthStreet", "lengthOfWalk", "(LBirthStreet$Row;)I"⟩, 11), (⟨"BirthStreet", "houseOfTurn", "(LBirthStreet$Row;I)I"⟩, 11), (⟨"BirthStreet", "cheapestSet", "(I)I"⟩, 11), (⟨"BirthStreet", "mayAllBear", "(I)Z"⟩, 11)]
theorem lw_r1 : ∀ q ∈ lw_privs_1, lw_okq q := List.forall_mem_cons.mpr ⟨lw_p0, List.forall_mem_cons.mpr ⟨lw_p1, List.forall_mem_cons.mpr ⟨lw_p2, List.forall_mem_cons.mpr ⟨lw_p3, List.forall_mem_cons.mpr ⟨lw_p4, List.forall_mem_cons.mpr ⟨lw_p5, List.forall_mem_cons.mpr ⟨lw_p6, List.forall_mem_cons.mpr ⟨lw_p7, List.forall_mem_cons.mpr ⟨lw_p8, List.forall_mem_cons.mpr ⟨lw_p9, List.forall_mem_cons.mpr ⟨lw_p10, List.forall_mem_cons.mpr ⟨lw_p11, List.forall_mem_cons.mpr ⟨lw_p12, List.forall_mem_cons.mpr ⟨lw_p13, List.forall_mem_cons.mpr ⟨lw_p14, List.forall_mem_cons.mpr ⟨lw_p15, fun _ h => absurd h List.not_mem_nil⟩⟩⟩⟩⟩⟩⟩⟩⟩⟩⟩⟩⟩⟩⟩⟩
theorem lw_p16 : lw_okq (⟨"BirthStreet", "numbersBy", "(I)I"⟩, 11) := ⟨⟨by decide +kernel, by decide +kernel⟩, List.mem_of_getElem? (i := 12) (by decide +kernel), List.mem_of_getElem? (i := 341) (by decide +kernel), List.mem_of_getElem? (i := 342) (by decide +kernel)⟩
theorem lw_p17 : lw_okq (⟨"BirthStreet", "allNumbers", "(LBirthStreet$Row;)I"⟩, 11) := ⟨⟨by decide +kernel, by decide +kernel⟩, List.mem_of_getElem? (i := 12) (by decide +kernel), List.mem_of_getElem? (i := 349) (by decide +kernel), List.mem_of_getElem? (i := 350) (by decide +kernel)⟩
theorem lw_p18 : lw_okq (⟨"BirthStreet", "canHaveBeen", "(I)Z"⟩, 11) := ⟨⟨by decide +kernel, by decide +kernel⟩, List.mem_of_getElem? (i := 12) (by decide +kernel), List.mem_of_getElem? (i := 369) (by decide +kernel), List.mem_of_getElem? (i := 370) (by decide +kernel)⟩
theorem lw_p19 : lw_okq (⟨"BirthStreet", "markPossibleDays", "()I"⟩, 11) := ⟨⟨by decide +kernel, by decide +kernel⟩, List.mem_of_getElem? (i := 12) (by decide +kernel), List.mem_of_getElem? (i := 377) (by decide +kernel), List.mem_of_getElem? (i := 378) (by decide +kernel)⟩
theorem lw_p20 : lw_okq (⟨"BirthStreet", "mostLeftBy", "(I)I"⟩, 11) := ⟨⟨by decide +kernel, by decide +kernel⟩, List.mem_of_getElem? (i := 12) (by decide +kernel), List.mem_of_getElem? (i := 381) (by decide +kernel), List.mem_of_getElem? (i := 382) (by decide +kernel)⟩
theorem lw_p21 : lw_okq (⟨"BirthStreet", "drawnHouse", "(I)I"⟩, 11) := ⟨⟨by decide +kernel, by decide +kernel⟩, List.mem_of_getElem? (i := 12) (by decide +kernel), List.mem_of_getElem? (i := 399) (by decide +kernel), List.mem_of_getElem? (i := 400) (by decide +kernel)⟩
theorem lw_p22 : lw_okq (⟨"BirthStreet", "bearIfMayBe", "(LBirthStreet$Row;I)V"⟩, 11) := ⟨⟨by decide +kernel, by decide +kernel⟩, List.mem_of_getElem? (i := 12) (by decide +kernel), List.mem_of_getElem? (i := 404) (by decide +kernel), List.mem_of_getElem? (i := 405) (by decide +kernel)⟩
theorem lw_p23 : lw_okq (⟨"BirthStreet", "unlikeNumbers", "()I"⟩, 11) := ⟨⟨by decide +kernel, by decide +kernel⟩, List.mem_of_getElem? (i := 12) (by decide +kernel), List.mem_of_getElem? (i := 425) (by decide +kernel), List.mem_of_getElem? (i := 426) (by decide +kernel)⟩
theorem lw_p24 : lw_okq (⟨"BirthStreet", "owedByAll", "()I"⟩, 11) := ⟨⟨by decide +kernel, by decide +kernel⟩, List.mem_of_getElem? (i := 12) (by decide +kernel), List.mem_of_getElem? (i := 429) (by decide +kernel), List.mem_of_getElem? (i := 430) (by decide +kernel)⟩
theorem lw_p25 : lw_okq (⟨"BirthStreet", "withHouse", "(JI)J"⟩, 11) := ⟨⟨by decide +kernel, by decide +kernel⟩, List.mem_of_getElem? (i := 12) (by decide +kernel), List.mem_of_getElem? (i := 438) (by decide +kernel), List.mem_of_getElem? (i := 439) (by decide +kernel)⟩
theorem lw_p26 : lw_okq (⟨"BirthStreetModel", "faultNow", "()I"⟩, 32) := ⟨⟨by decide +kernel, by decide +kernel⟩, List.mem_of_getElem? (i := 452) (by decide +kernel), List.mem_of_getElem? (i := 570) (by decide +kernel), List.mem_of_getElem? (i := 571) (by decide +kernel)⟩
theorem lw_p27 : lw_okq (⟨"BirthStreetModel", "isGood", "(I)Z"⟩, 32) := ⟨⟨by decide +kernel, by decide +kernel⟩, List.mem_of_getElem? (i := 452) (by decide +kernel), List.mem_of_getElem? (i := 574) (by decide +kernel), List.mem_of_getElem? (i := 575) (by decide +kernel)⟩
theorem lw_p28 : lw_okq (⟨"BirthStreetModel", "isHouse", "(I)Z"⟩, 32) := ⟨⟨by decide +kernel, by decide +kernel⟩, List.mem_of_getElem? (i := 452) (by decide +kernel), List.mem_of_getElem? (i := 589) (by decide +kernel), List.mem_of_getElem? (i := 590) (by decide +kernel)⟩
theorem lw_p29 : lw_okq (⟨"BirthStreetModel", "houseNow", "(II)I"⟩, 32) := ⟨⟨by decide +kernel, by decide +kernel⟩, List.mem_of_getElem? (i := 452) (by decide +kernel), List.mem_of_getElem? (i := 593) (by decide +kernel), List.mem_of_getElem? (i := 594) (by decide +kernel)⟩
theorem lw_p30 : lw_okq (⟨"BirthStreetModel", "number", "(I)I"⟩, 32) := ⟨⟨by decide +kernel, by decide +kernel⟩, List.mem_of_getElem? (i := 452) (by decide +kernel), List.mem_of_getElem? (i := 597) (by decide +kernel), List.mem_of_getElem? (i := 598) (by decide +kernel)⟩
theorem lw_p31 : lw_okq (⟨"BirthStreetModel", "numberBy", "(II)I"⟩, 32) := ⟨⟨by decide +kernel, by decide +kernel⟩, List.mem_of_getElem? (i := 452) (by decide +kernel), List.mem_of_getElem? (i := 601) (by decide +kernel), List.mem_of_getElem? (i := 602) (by decide +kernel)⟩
def lw_privs_2 : List (MethodName × Nat) := [(⟨"BirthStreet", "numbersBy", "(I)I"⟩, 11), (⟨"BirthStreet", "allNumbers", "(LBirthStreet$Row;)I"⟩, 11), (⟨"BirthStreet", "canHaveBeen", "(I)Z"⟩, 11), (⟨"BirthStreet", "markPossibleDays", "()I"⟩, 11), (⟨"BirthStreet", "mostLeftBy", "(I)I"⟩, 11), (⟨"BirthStreet", "drawnHouse", "(I)I"⟩, 11), (⟨"BirthStreet", "bearIfMayBe", "(LBirthStreet$Row;I)V"⟩, 11), (⟨"BirthStreet", "unlikeNumbers", "()I"⟩, 11), (⟨"BirthStreet", "owedByAll", "()I"⟩, 11), (⟨"BirthStreet", "withHouse", "(JI)J"⟩, 11), (⟨"BirthStreetModel", "faultNow", "()I"⟩, 32), (⟨"BirthStreetModel", "isGood", "(I)Z"⟩, 32), (⟨"BirthStreetModel", "isHouse", "(I)Z"⟩, 32), (⟨"BirthStreetModel", "houseNow", "(II)I"⟩, 32), (⟨"BirthStreetModel", "number", "(I)I"⟩, 32), (⟨"BirthStreetModel", "numberBy", "(II)I"⟩, 32)]
theorem lw_r2 : ∀ q ∈ lw_privs_2, lw_okq q := List.forall_mem_cons.mpr ⟨lw_p16, List.forall_mem_cons.mpr ⟨lw_p17, List.forall_mem_cons.mpr ⟨lw_p18, List.forall_mem_cons.mpr ⟨lw_p19, List.forall_mem_cons.mpr ⟨lw_p20, List.forall_mem_cons.mpr ⟨lw_p21, List.forall_mem_cons.mpr ⟨lw_p22, List.forall_mem_cons.mpr ⟨lw_p23, List.forall_mem_cons.mpr ⟨lw_p24, List.forall_mem_cons.mpr ⟨lw_p25, List.forall_mem_cons.mpr ⟨lw_p26, List.forall_mem_cons.mpr ⟨lw_p27, List.forall_mem_cons.mpr ⟨lw_p28, List.forall_mem_cons.mpr ⟨lw_p29, List.forall_mem_cons.mpr ⟨lw_p30, List.forall_mem_cons.mpr ⟨lw_p31, fun _ h => absurd h List.not_mem_nil⟩⟩⟩⟩⟩⟩⟩⟩⟩⟩⟩⟩⟩⟩⟩⟩
theorem lw_p32 : lw_okq (⟨"BirthStreetModel", "owes", "(I)I"⟩, 32) := ⟨⟨by decide +kernel, by decide +kernel⟩, List.mem_of_getElem? (i := 452) (by decide +kernel), List.mem_of_getElem? (i := 605) (by decide +kernel), List.mem_of_getElem? (i := 606) (by decide +kernel)⟩
theorem lw_p33 : lw_okq (⟨"BirthStreetModel", "houseOf", "(II)I"⟩, 32) := ⟨⟨by decide +kernel, by decide +kernel⟩, List.mem_of_getElem? (i := 452) (by decide +kernel), List.mem_of_getElem? (i := 609) (by decide +kernel), List.mem_of_getElem? (i := 610) (by decide +kernel)⟩
theorem lw_p34 : lw_okq (⟨"BirthStreetModel", "numberOn", "(II)I"⟩, 32) := ⟨⟨by decide +kernel, by decide +kernel⟩, List.mem_of_getElem? (i := 452) (by decide +kernel), List.mem_of_getElem? (i := 613) (by decide +kernel), List.mem_of_getElem? (i := 614) (by decide +kernel)⟩
theorem lw_p35 : lw_okq (⟨"BirthStreetModel", "orderOf", "(I)I"⟩, 32) := ⟨⟨by decide +kernel, by decide +kernel⟩, List.mem_of_getElem? (i := 452) (by decide +kernel), List.mem_of_getElem? (i := 617) (by decide +kernel), List.mem_of_getElem? (i := 618) (by decide +kernel)⟩
theorem lw_p36 : lw_okq (⟨"BirthStreetModel", "mayBirth", "(I)Z"⟩, 32) := ⟨⟨by decide +kernel, by decide +kernel⟩, List.mem_of_getElem? (i := 452) (by decide +kernel), List.mem_of_getElem? (i := 629) (by decide +kernel), List.mem_of_getElem? (i := 630) (by decide +kernel)⟩
theorem lw_p37 : lw_okq (⟨"BirthStreetModel", "ageNone", "(I)V"⟩, 32) := ⟨⟨by decide +kernel, by decide +kernel⟩, List.mem_of_getElem? (i := 452) (by decide +kernel), List.mem_of_getElem? (i := 633) (by decide +kernel), List.mem_of_getElem? (i := 634) (by decide +kernel)⟩
theorem lw_p38 : lw_okq (⟨"BirthStreetModel", "lends", "(I)Z"⟩, 32) := ⟨⟨by decide +kernel, by decide +kernel⟩, List.mem_of_getElem? (i := 452) (by decide +kernel), List.mem_of_getElem? (i := 637) (by decide +kernel), List.mem_of_getElem? (i := 638) (by decide +kernel)⟩
theorem lw_p39 : lw_okq (⟨"BirthStreetModel", "ageMore", "()V"⟩, 32) := ⟨⟨by decide +kernel, by decide +kernel⟩, List.mem_of_getElem? (i := 452) (by decide +kernel), List.mem_of_getElem? (i := 645) (by decide +kernel), List.mem_of_getElem? (i := 646) (by decide +kernel)⟩
theorem lw_p40 : lw_okq (⟨"BirthStreetModel", "isDay", "(I)Z"⟩, 32) := ⟨⟨by decide +kernel, by decide +kernel⟩, List.mem_of_getElem? (i := 452) (by decide +kernel), List.mem_of_getElem? (i := 653) (by decide +kernel), List.mem_of_getElem? (i := 654) (by decide +kernel)⟩
theorem lw_p41 : lw_okq (⟨"BirthStreetModel", "walkNow", "()I"⟩, 32) := ⟨⟨by decide +kernel, by decide +kernel⟩, List.mem_of_getElem? (i := 452) (by decide +kernel), List.mem_of_getElem? (i := 665) (by decide +kernel), List.mem_of_getElem? (i := 666) (by decide +kernel)⟩
theorem lw_p42 : lw_okq (⟨"BirthStreetModel", "cheapNow", "(II)I"⟩, 32) := ⟨⟨by decide +kernel, by decide +kernel⟩, List.mem_of_getElem? (i := 452) (by decide +kernel), List.mem_of_getElem? (i := 681) (by decide +kernel), List.mem_of_getElem? (i := 682) (by decide +kernel)⟩
theorem lw_p43 : lw_okq (⟨"BirthStreetModel", "save", "()V"⟩, 32) := ⟨⟨by decide +kernel, by decide +kernel⟩, List.mem_of_getElem? (i := 452) (by decide +kernel), List.mem_of_getElem? (i := 685) (by decide +kernel), List.mem_of_getElem? (i := 686) (by decide +kernel)⟩
theorem lw_p44 : lw_okq (⟨"BirthStreetModel", "numbersBy", "(I)I"⟩, 32) := ⟨⟨by decide +kernel, by decide +kernel⟩, List.mem_of_getElem? (i := 452) (by decide +kernel), List.mem_of_getElem? (i := 692) (by decide +kernel), List.mem_of_getElem? (i := 693) (by decide +kernel)⟩
theorem lw_p45 : lw_okq (⟨"BirthStreetModel", "numbersAll", "()I"⟩, 32) := ⟨⟨by decide +kernel, by decide +kernel⟩, List.mem_of_getElem? (i := 452) (by decide +kernel), List.mem_of_getElem? (i := 699) (by decide +kernel), List.mem_of_getElem? (i := 700) (by decide +kernel)⟩
theorem lw_p46 : lw_okq (⟨"BirthStreetModel", "load", "()V"⟩, 32) := ⟨⟨by decide +kernel, by decide +kernel⟩, List.mem_of_getElem? (i := 452) (by decide +kernel), List.mem_of_getElem? (i := 703) (by decide +kernel), List.mem_of_getElem? (i := 704) (by decide +kernel)⟩
theorem lw_p47 : lw_okq (⟨"BirthStreetModel", "whenNow", "(II)I"⟩, 32) := ⟨⟨by decide +kernel, by decide +kernel⟩, List.mem_of_getElem? (i := 452) (by decide +kernel), List.mem_of_getElem? (i := 712) (by decide +kernel), List.mem_of_getElem? (i := 713) (by decide +kernel)⟩
def lw_privs_3 : List (MethodName × Nat) := [(⟨"BirthStreetModel", "owes", "(I)I"⟩, 32), (⟨"BirthStreetModel", "houseOf", "(II)I"⟩, 32), (⟨"BirthStreetModel", "numberOn", "(II)I"⟩, 32), (⟨"BirthStreetModel", "orderOf", "(I)I"⟩, 32), (⟨"BirthStreetModel", "mayBirth", "(I)Z"⟩, 32), (⟨"BirthStreetModel", "ageNone", "(I)V"⟩, 32), (⟨"BirthStreetModel", "lends", "(I)Z"⟩, 32), (⟨"BirthStreetModel", "ageMore", "()V"⟩, 32), (⟨"BirthStreetModel", "isDay", "(I)Z"⟩, 32), (⟨"BirthStreetModel", "walkNow", "()I"⟩, 32), (⟨"BirthStreetModel", "cheapNow", "(II)I"⟩, 32), (⟨"BirthStreetModel", "save", "()V"⟩, 32), (⟨"BirthStreetModel", "numbersBy", "(I)I"⟩, 32), (⟨"BirthStreetModel", "numbersAll", "()I"⟩, 32), (⟨"BirthStreetModel", "load", "()V"⟩, 32), (⟨"BirthStreetModel", "whenNow", "(II)I"⟩, 32)]
theorem lw_r3 : ∀ q ∈ lw_privs_3, lw_okq q := List.forall_mem_cons.mpr ⟨lw_p32, List.forall_mem_cons.mpr ⟨lw_p33, List.forall_mem_cons.mpr ⟨lw_p34, List.forall_mem_cons.mpr ⟨lw_p35, List.forall_mem_cons.mpr ⟨lw_p36, List.forall_mem_cons.mpr ⟨lw_p37, List.forall_mem_cons.mpr ⟨lw_p38, List.forall_mem_cons.mpr ⟨lw_p39, List.forall_mem_cons.mpr ⟨lw_p40, List.forall_mem_cons.mpr ⟨lw_p41, List.forall_mem_cons.mpr ⟨lw_p42, List.forall_mem_cons.mpr ⟨lw_p43, List.forall_mem_cons.mpr ⟨lw_p44, List.forall_mem_cons.mpr ⟨lw_p45, List.forall_mem_cons.mpr ⟨lw_p46, List.forall_mem_cons.mpr ⟨lw_p47, fun _ h => absurd h List.not_mem_nil⟩⟩⟩⟩⟩⟩⟩⟩⟩⟩⟩⟩⟩⟩⟩⟩
theorem lw_p48 : lw_okq (⟨"BirthStreetModel", "daysNow", "(I)I"⟩, 32) := ⟨⟨by decide +kernel, by decide +kernel⟩, List.mem_of_getElem? (i := 452) (by decide +kernel), List.mem_of_getElem? (i := 728) (by decide +kernel), List.mem_of_getElem? (i := 729) (by decide +kernel)⟩
theorem lw_p49 : lw_okq (⟨"BirthStreetModel", "isHeard", "(I)Z"⟩, 32) := ⟨⟨by decide +kernel, by decide +kernel⟩, List.mem_of_getElem? (i := 452) (by decide +kernel), List.mem_of_getElem? (i := 732) (by decide +kernel), List.mem_of_getElem? (i := 733) (by decide +kernel)⟩
theorem lw_p50 : lw_okq (⟨"BirthStreetModel", "askNow", "()I"⟩, 32) := ⟨⟨by decide +kernel, by decide +kernel⟩, List.mem_of_getElem? (i := 452) (by decide +kernel), List.mem_of_getElem? (i := 740) (by decide +kernel), List.mem_of_getElem? (i := 741) (by decide +kernel)⟩
theorem lw_p51 : lw_okq (⟨"BirthStreetModel", "worstOf", "(I)I"⟩, 32) := ⟨⟨by decide +kernel, by decide +kernel⟩, List.mem_of_getElem? (i := 452) (by decide +kernel), List.mem_of_getElem? (i := 744) (by decide +kernel), List.mem_of_getElem? (i := 745) (by decide +kernel)⟩
theorem lw_p52 : lw_okq (⟨"BirthStreetModel", "yearsNow", "(III)I"⟩, 32) := ⟨⟨by decide +kernel, by decide +kernel⟩, List.mem_of_getElem? (i := 452) (by decide +kernel), List.mem_of_getElem? (i := 752) (by decide +kernel), List.mem_of_getElem? (i := 753) (by decide +kernel)⟩
theorem lw_p53 : lw_okq (⟨"BirthStreetModel", "draw", "(I)I"⟩, 32) := ⟨⟨by decide +kernel, by decide +kernel⟩, List.mem_of_getElem? (i := 452) (by decide +kernel), List.mem_of_getElem? (i := 756) (by decide +kernel), List.mem_of_getElem? (i := 757) (by decide +kernel)⟩
theorem lw_p54 : lw_okq (⟨"BirthStreetModel", "howMany", "(I)I"⟩, 32) := ⟨⟨by decide +kernel, by decide +kernel⟩, List.mem_of_getElem? (i := 452) (by decide +kernel), List.mem_of_getElem? (i := 776) (by decide +kernel), List.mem_of_getElem? (i := 777) (by decide +kernel)⟩
theorem lw_p55 : lw_okq (⟨"BirthStreetModel", "unlike", "()I"⟩, 32) := ⟨⟨by decide +kernel, by decide +kernel⟩, List.mem_of_getElem? (i := 452) (by decide +kernel), List.mem_of_getElem? (i := 780) (by decide +kernel), List.mem_of_getElem? (i := 781) (by decide +kernel)⟩
theorem lw_p56 : lw_okq (⟨"BirthStreetModel", "owesAll", "()I"⟩, 32) := ⟨⟨by decide +kernel, by decide +kernel⟩, List.mem_of_getElem? (i := 452) (by decide +kernel), List.mem_of_getElem? (i := 784) (by decide +kernel), List.mem_of_getElem? (i := 785) (by decide +kernel)⟩
theorem lw_p57 : lw_okq (⟨"BirthStreetModel", "mixHouse", "(I)V"⟩, 32) := ⟨⟨by decide +kernel, by decide +kernel⟩, List.mem_of_getElem? (i := 452) (by decide +kernel), List.mem_of_getElem? (i := 793) (by decide +kernel), List.mem_of_getElem? (i := 794) (by decide +kernel)⟩
theorem lw_p58 : lw_okq (⟨"BirthStreetModel", "mix", "(J)V"⟩, 32) := ⟨⟨by decide +kernel, by decide +kernel⟩, List.mem_of_getElem? (i := 452) (by decide +kernel), List.mem_of_getElem? (i := 797) (by decide +kernel), List.mem_of_getElem? (i := 798) (by decide +kernel)⟩
def lw_privs_4 : List (MethodName × Nat) := [(⟨"BirthStreetModel", "daysNow", "(I)I"⟩, 32), (⟨"BirthStreetModel", "isHeard", "(I)Z"⟩, 32), (⟨"BirthStreetModel", "askNow", "()I"⟩, 32), (⟨"BirthStreetModel", "worstOf", "(I)I"⟩, 32), (⟨"BirthStreetModel", "yearsNow", "(III)I"⟩, 32), (⟨"BirthStreetModel", "draw", "(I)I"⟩, 32), (⟨"BirthStreetModel", "howMany", "(I)I"⟩, 32), (⟨"BirthStreetModel", "unlike", "()I"⟩, 32), (⟨"BirthStreetModel", "owesAll", "()I"⟩, 32), (⟨"BirthStreetModel", "mixHouse", "(I)V"⟩, 32), (⟨"BirthStreetModel", "mix", "(J)V"⟩, 32)]
theorem lw_r4 : ∀ q ∈ lw_privs_4, lw_okq q := List.forall_mem_cons.mpr ⟨lw_p48, List.forall_mem_cons.mpr ⟨lw_p49, List.forall_mem_cons.mpr ⟨lw_p50, List.forall_mem_cons.mpr ⟨lw_p51, List.forall_mem_cons.mpr ⟨lw_p52, List.forall_mem_cons.mpr ⟨lw_p53, List.forall_mem_cons.mpr ⟨lw_p54, List.forall_mem_cons.mpr ⟨lw_p55, List.forall_mem_cons.mpr ⟨lw_p56, List.forall_mem_cons.mpr ⟨lw_p57, List.forall_mem_cons.mpr ⟨lw_p58, fun _ h => absurd h List.not_mem_nil⟩⟩⟩⟩⟩⟩⟩⟩⟩⟩⟩
def lw_privs : List (MethodName × Nat) := lw_privs_1 ++ (lw_privs_2 ++ (lw_privs_3 ++ (lw_privs_4)))
def lw_tbl : List Cond := k2_sels lw_privs ++ tables_1
theorem lw_privs_ok : ∀ q ∈ lw_privs, lw_okq q := by
  show ∀ q ∈ lw_privs_1 ++ (lw_privs_2 ++ (lw_privs_3 ++ (lw_privs_4))), lw_okq q
  exact List.forall_mem_append.mpr ⟨lw_r1, List.forall_mem_append.mpr ⟨lw_r2, List.forall_mem_append.mpr ⟨lw_r3, lw_r4⟩⟩⟩
/-! ===== BEGIN words of one list among another's, by their places ===== -/
theorem goodIn_r {big : List Cond} (ws : List Cond) (ps : List Nat) (hp : ws = ps.filterMap (fun i => big[i]?)) (h : ws.all goodWord = true) : GoodIn big ws := by
  intro w hw
  have h1 := List.all_eq_true.mp h w hw
  rw [hp] at hw
  obtain ⟨i, -, hi⟩ := List.mem_filterMap.mp hw
  have hm : w ∈ big := by first | exact List.mem_of_getElem? hi | exact List.getElem?_mem hi
  exact ⟨hm, good_of_word h1⟩
theorem goodIn_app {big a b : List Cond} (ha : GoodIn big a) (hb : GoodIn big b) : GoodIn big (a ++ b) := fun w h => (List.mem_append.mp h).elim (ha w) (hb w)
theorem goodIn_ca {big a b : List Cond} {c : Cond} (ha : GoodIn big (c :: a)) (hb : GoodIn big b) : GoodIn big (c :: (a ++ b)) := fun w h => (List.mem_cons.mp h).elim (fun e => ha w (List.mem_cons.mpr (Or.inl e))) (fun h => (List.mem_append.mp h).elim (fun h => ha w (List.mem_cons.mpr (Or.inr h))) (hb w))
theorem goodIn_sub {big ws : List Cond} (hm : ∀ w ∈ ws, w ∈ big) (h : ws.all goodWord = true) : GoodIn big ws := fun w hw => ⟨hm w hw, good_of_word (List.all_eq_true.mp h w hw)⟩
/-! ===== END ===== -/

/-! ===== BEGIN printed: names, fields, word lists, decode rows ===== -/
def RX0 : String := "BirthStreet$Moment"
def TX0 : u_T := fun k => match k with
  | 0 => ("BirthStreet$Moment", "today", "I", false)
  | 1 => ("BirthStreet$Moment", "births", "I", false)
  | 2 => ("BirthStreet$Moment", "debts", "I", false)
  | 3 => ("BirthStreet$Moment", "heard", "I", false)
  | 4 => ("BirthStreet$Moment", "ages", "LBirthStreet$Row;", true)
  | 5 => ("BirthStreet$Moment", "pastAges", "LBirthStreet$Row;", true)
  | 6 => ("BirthStreet$Moment", "birthsIn", "LBirthStreet$Row;", true)
  | 7 => ("BirthStreet$Moment", "debtAmounts", "LBirthStreet$Row;", true)
  | 8 => ("BirthStreet$Moment", "debtNumbers", "LBirthStreet$Row;", true)
  | 9 => ("BirthStreet$Moment", "heardHouses", "LBirthStreet$Row;", true)
  | _ => ("BirthStreet$Moment", "heardNumbers", "LBirthStreet$Row;", true)
def tyX0 : Nat → FieldType := fun k => match k with
  | 0 => .int
  | 1 => .int
  | 2 => .int
  | 3 => .int
  | 4 => .object "BirthStreet$Row"
  | 5 => .object "BirthStreet$Row"
  | 6 => .object "BirthStreet$Row"
  | 7 => .object "BirthStreet$Row"
  | 8 => .object "BirthStreet$Row"
  | 9 => .object "BirthStreet$Row"
  | _ => .object "BirthStreet$Row"
abbrev wsX00 : List Cond := u_ws RX0 TX0 11
theorem nmX0 : ∀ a, a < 11 → ∀ b, b < 11 → a ≠ b → (TX0 a).2.1 ≠ (TX0 b).2.1 := by decide +kernel
theorem tyX0_ok : ∀ k, k < 11 → parseFieldDescriptor (TX0 k).2.2.1 = some (tyX0 k) := by decide +kernel
abbrev cX0_init : ByteArray := prog_2_method_1_code
def yX0_init : MethodName := ⟨RX0, "<init>", "()V"⟩
abbrev cX0_startAnew : ByteArray := prog_2_method_2_code
def yX0_startAnew : MethodName := ⟨RX0, "startAnew", "()V"⟩
abbrev cX0_take : ByteArray := prog_2_method_3_code
def yX0_take : MethodName := ⟨RX0, "take", "(LBirthStreet$Moment;)V"⟩
def RX1 : String := "BirthStreet$Row"
def TX1 : u_T := fun k => match k with
  | _ => ("BirthStreet$Row", "cells", "[I", true)
def tyX1 : Nat → FieldType := fun k => match k with
  | _ => .array .int
abbrev wsX10 : List Cond := u_ws RX1 TX1 1
theorem nmX1 : ∀ a, a < 1 → ∀ b, b < 1 → a ≠ b → (TX1 a).2.1 ≠ (TX1 b).2.1 := by decide +kernel
theorem tyX1_ok : ∀ k, k < 1 → parseFieldDescriptor (TX1 k).2.2.1 = some (tyX1 k) := by decide +kernel
abbrev cX1_init : ByteArray := prog_3_method_1_code
def yX1_init : MethodName := ⟨RX1, "<init>", "(I)V"⟩
abbrev cX1_at : ByteArray := prog_3_method_2_code
def yX1_at : MethodName := ⟨RX1, "at", "(I)I"⟩
abbrev cX1_put : ByteArray := prog_3_method_3_code
def yX1_put : MethodName := ⟨RX1, "put", "(II)V"⟩
abbrev cX1_add : ByteArray := prog_3_method_4_code
def yX1_add : MethodName := ⟨RX1, "add", "(II)V"⟩
abbrev cX1_clear : ByteArray := prog_3_method_5_code
def yX1_clear : MethodName := ⟨RX1, "clear", "()V"⟩
abbrev cX1_take : ByteArray := prog_3_method_6_code
def yX1_take : MethodName := ⟨RX1, "take", "(LBirthStreet$Row;)V"⟩
def RX2 : String := "BirthStreet"
def TX2 : u_T := fun k => match k with
  | 0 => ("BirthStreet", "page", "LBirthStreet$Row;", true)
  | 1 => ("BirthStreet", "letters", "I", false)
  | 2 => ("BirthStreet", "houses", "I", false)
  | 3 => ("BirthStreet", "streetsRead", "I", false)
  | 4 => ("BirthStreet", "kinds", "LBirthStreet$Row;", true)
  | 5 => ("BirthStreet", "now", "LBirthStreet$Moment;", true)
  | 6 => ("BirthStreet", "kept", "LBirthStreet$Moment;", true)
  | 7 => ("BirthStreet", "isKept", "Z", false)
  | 8 => ("BirthStreet", "wouldBe", "LBirthStreet$Row;", true)
  | 9 => ("BirthStreet", "possible", "LBirthStreet$Row;", true)
  | _ => ("BirthStreet", "tally", "LBirthStreet$Row;", true)
def tyX2 : Nat → FieldType := fun k => match k with
  | 0 => .object "BirthStreet$Row"
  | 1 => .int
  | 2 => .int
  | 3 => .int
  | 4 => .object "BirthStreet$Row"
  | 5 => .object "BirthStreet$Moment"
  | 6 => .object "BirthStreet$Moment"
  | 7 => .boolean
  | 8 => .object "BirthStreet$Row"
  | 9 => .object "BirthStreet$Row"
  | _ => .object "BirthStreet$Row"
abbrev wsX20 : List Cond := u_ws RX2 TX2 11
theorem nmX2 : ∀ a, a < 11 → ∀ b, b < 11 → a ≠ b → (TX2 a).2.1 ≠ (TX2 b).2.1 := by decide +kernel
theorem tyX2_ok : ∀ k, k < 11 → parseFieldDescriptor (TX2 k).2.2.1 = some (tyX2 k) := by decide +kernel
abbrev cX2_init : ByteArray := prog_1_method_1_code
def yX2_init : MethodName := ⟨RX2, "<init>", "()V"⟩
abbrev cX2_letter : ByteArray := prog_1_method_2_code
def yX2_letter : MethodName := ⟨RX2, "letter", "(I)I"⟩
abbrev cX2_blank : ByteArray := prog_1_method_3_code
def yX2_blank : MethodName := ⟨RX2, "blank", "()I"⟩
abbrev cX2_fault : ByteArray := prog_1_method_4_code
def yX2_fault : MethodName := ⟨RX2, "fault", "()I"⟩
abbrev cX2_street : ByteArray := prog_1_method_5_code
def yX2_street : MethodName := ⟨RX2, "street", "()I"⟩
abbrev cX2_about : ByteArray := prog_1_method_6_code
def yX2_about : MethodName := ⟨RX2, "about", "(II)I"⟩
abbrev cX2_as : ByteArray := prog_1_method_7_code
def yX2_as : MethodName := ⟨RX2, "as", "(II)I"⟩
abbrev cX2_birth : ByteArray := prog_1_method_8_code
def yX2_birth : MethodName := ⟨RX2, "birth", "(I)I"⟩
abbrev cX2_day : ByteArray := prog_1_method_9_code
def yX2_day : MethodName := ⟨RX2, "day", "()I"⟩
abbrev cX2_then : ByteArray := prog_1_method_10_code
def yX2_then : MethodName := ⟨RX2, "then", "(II)I"⟩
abbrev cX2_goesTo : ByteArray := prog_1_method_11_code
def yX2_goesTo : MethodName := ⟨RX2, "goesTo", "(II)I"⟩
abbrev cX2_walk : ByteArray := prog_1_method_12_code
def yX2_walk : MethodName := ⟨RX2, "walk", "()I"⟩
abbrev cX2_debt : ByteArray := prog_1_method_13_code
def yX2_debt : MethodName := ⟨RX2, "debt", "(II)I"⟩
abbrev cX2_pay : ByteArray := prog_1_method_14_code
def yX2_pay : MethodName := ⟨RX2, "pay", "()I"⟩
abbrev cX2_cheap : ByteArray := prog_1_method_15_code
def yX2_cheap : MethodName := ⟨RX2, "cheap", "(II)I"⟩
abbrev cX2_when : ByteArray := prog_1_method_16_code
def yX2_when : MethodName := ⟨RX2, "when", "(II)I"⟩
abbrev cX2_hear : ByteArray := prog_1_method_17_code
def yX2_hear : MethodName := ⟨RX2, "hear", "(II)I"⟩
abbrev cX2_forget : ByteArray := prog_1_method_18_code
def yX2_forget : MethodName := ⟨RX2, "forget", "()I"⟩
abbrev cX2_days : ByteArray := prog_1_method_19_code
def yX2_days : MethodName := ⟨RX2, "days", "(I)I"⟩
abbrev cX2_ask : ByteArray := prog_1_method_20_code
def yX2_ask : MethodName := ⟨RX2, "ask", "()I"⟩
abbrev cX2_years : ByteArray := prog_1_method_21_code
def yX2_years : MethodName := ⟨RX2, "years", "(III)I"⟩
abbrev cX2_image : ByteArray := prog_1_method_22_code
def yX2_image : MethodName := ⟨RX2, "image", "()I"⟩
abbrev cX2_restore : ByteArray := prog_1_method_23_code
def yX2_restore : MethodName := ⟨RX2, "restore", "()I"⟩
abbrev cX2_count : ByteArray := prog_1_method_24_code
def yX2_count : MethodName := ⟨RX2, "count", "(I)I"⟩
abbrev cX2_digest : ByteArray := prog_1_method_25_code
def yX2_digest : MethodName := ⟨RX2, "digest", "()J"⟩
abbrev cX2_withHouse : ByteArray := prog_1_method_26_code
def yX2_withHouse : MethodName := ⟨RX2, "withHouse", "(JI)J"⟩
abbrev cX2_with : ByteArray := prog_1_method_27_code
def yX2_with : MethodName := ⟨RX2, "with", "(JI)J"⟩
abbrev cX2_canStandAt : ByteArray := prog_1_method_28_code
def yX2_canStandAt : MethodName := ⟨RX2, "canStandAt", "(II)Z"⟩
abbrev cX2_kindOfLetter : ByteArray := prog_1_method_29_code
def yX2_kindOfLetter : MethodName := ⟨RX2, "kindOfLetter", "(I)I"⟩
abbrev cX2_housesOnPage : ByteArray := prog_1_method_30_code
def yX2_housesOnPage : MethodName := ⟨RX2, "housesOnPage", "()I"⟩
abbrev cX2_isA : ByteArray := prog_1_method_31_code
def yX2_isA : MethodName := ⟨RX2, "isA", "(II)Z"⟩
abbrev cX2_numberOf : ByteArray := prog_1_method_32_code
def yX2_numberOf : MethodName := ⟨RX2, "numberOf", "(II)I"⟩
abbrev cX2_ageNextDay : ByteArray := prog_1_method_33_code
def yX2_ageNextDay : MethodName := ⟨RX2, "ageNextDay", "(II)I"⟩
abbrev cX2_isHouse : ByteArray := prog_1_method_34_code
def yX2_isHouse : MethodName := ⟨RX2, "isHouse", "(I)Z"⟩
abbrev cX2_lendsACradle : ByteArray := prog_1_method_35_code
def yX2_lendsACradle : MethodName := ⟨RX2, "lendsACradle", "(I)Z"⟩
abbrev cX2_bear : ByteArray := prog_1_method_36_code
def yX2_bear : MethodName := ⟨RX2, "bear", "(LBirthStreet$Row;I)V"⟩
abbrev cX2_bearIfMayBe : ByteArray := prog_1_method_37_code
def yX2_bearIfMayBe : MethodName := ⟨RX2, "bearIfMayBe", "(LBirthStreet$Row;I)V"⟩
abbrev cX2_growOlder : ByteArray := prog_1_method_38_code
def yX2_growOlder : MethodName := ⟨RX2, "growOlder", "(LBirthStreet$Row;)V"⟩
abbrev cX2_numberAt : ByteArray := prog_1_method_39_code
def yX2_numberAt : MethodName := ⟨RX2, "numberAt", "(LBirthStreet$Row;I)I"⟩
abbrev cX2_allNumbers : ByteArray := prog_1_method_40_code
def yX2_allNumbers : MethodName := ⟨RX2, "allNumbers", "(LBirthStreet$Row;)I"⟩
abbrev cX2_turnInWalk : ByteArray := prog_1_method_41_code
def yX2_turnInWalk : MethodName := ⟨RX2, "turnInWalk", "(LBirthStreet$Row;I)I"⟩
abbrev cX2_houseOfTurn : ByteArray := prog_1_method_42_code
def yX2_houseOfTurn : MethodName := ⟨RX2, "houseOfTurn", "(LBirthStreet$Row;I)I"⟩
abbrev cX2_lengthOfWalk : ByteArray := prog_1_method_43_code
def yX2_lengthOfWalk : MethodName := ⟨RX2, "lengthOfWalk", "(LBirthStreet$Row;)I"⟩
abbrev cX2_isDay : ByteArray := prog_1_method_44_code
def yX2_isDay : MethodName := ⟨RX2, "isDay", "(I)Z"⟩
abbrev cX2_cellOf : ByteArray := prog_1_method_45_code
def yX2_cellOf : MethodName := ⟨RX2, "cellOf", "(II)I"⟩
abbrev cX2_numberNow : ByteArray := prog_1_method_46_code
def yX2_numberNow : MethodName := ⟨RX2, "numberNow", "(I)I"⟩
abbrev cX2_numberOn : ByteArray := prog_1_method_47_code
def yX2_numberOn : MethodName := ⟨RX2, "numberOn", "(II)I"⟩
abbrev cX2_houseWith : ByteArray := prog_1_method_48_code
def yX2_houseWith : MethodName := ⟨RX2, "houseWith", "(II)I"⟩
abbrev cX2_unlikeNumbers : ByteArray := prog_1_method_49_code
def yX2_unlikeNumbers : MethodName := ⟨RX2, "unlikeNumbers", "()I"⟩
abbrev cX2_owedBy : ByteArray := prog_1_method_50_code
def yX2_owedBy : MethodName := ⟨RX2, "owedBy", "(I)I"⟩
abbrev cX2_owedByAll : ByteArray := prog_1_method_51_code
def yX2_owedByAll : MethodName := ⟨RX2, "owedByAll", "()I"⟩
abbrev cX2_cheapestSet : ByteArray := prog_1_method_52_code
def yX2_cheapestSet : MethodName := ⟨RX2, "cheapestSet", "(I)I"⟩
abbrev cX2_isIn : ByteArray := prog_1_method_53_code
def yX2_isIn : MethodName := ⟨RX2, "isIn", "(II)Z"⟩
abbrev cX2_mayAllBear : ByteArray := prog_1_method_54_code
def yX2_mayAllBear : MethodName := ⟨RX2, "mayAllBear", "(I)Z"⟩
abbrev cX2_numbersBy : ByteArray := prog_1_method_55_code
def yX2_numbersBy : MethodName := ⟨RX2, "numbersBy", "(I)I"⟩
abbrev cX2_canHaveBeen : ByteArray := prog_1_method_56_code
def yX2_canHaveBeen : MethodName := ⟨RX2, "canHaveBeen", "(I)Z"⟩
abbrev cX2_markPossibleDays : ByteArray := prog_1_method_57_code
def yX2_markPossibleDays : MethodName := ⟨RX2, "markPossibleDays", "()I"⟩
abbrev cX2_mostLeftBy : ByteArray := prog_1_method_58_code
def yX2_mostLeftBy : MethodName := ⟨RX2, "mostLeftBy", "(I)I"⟩
abbrev cX2_nextSeed : ByteArray := prog_1_method_59_code
def yX2_nextSeed : MethodName := ⟨RX2, "nextSeed", "(I)I"⟩
abbrev cX2_drawnHouse : ByteArray := prog_1_method_60_code
def yX2_drawnHouse : MethodName := ⟨RX2, "drawnHouse", "(I)I"⟩
def RX3 : String := "BirthStreetModel"
def TX3 : u_T := fun k => match k with
  | 0 => ("BirthStreetModel", "streets", "I", false)
  | 1 => ("BirthStreetModel", "houses", "I", false)
  | 2 => ("BirthStreetModel", "kindOf", "[I", true)
  | 3 => ("BirthStreetModel", "ageOf", "[I", true)
  | 4 => ("BirthStreetModel", "birthsOf", "[I", true)
  | 5 => ("BirthStreetModel", "ageThen", "[I", true)
  | 6 => ("BirthStreetModel", "today", "I", false)
  | 7 => ("BirthStreetModel", "births", "I", false)
  | 8 => ("BirthStreetModel", "debts", "I", false)
  | 9 => ("BirthStreetModel", "debtMuch", "[I", true)
  | 10 => ("BirthStreetModel", "debtNumber", "[I", true)
  | 11 => ("BirthStreetModel", "heard", "I", false)
  | 12 => ("BirthStreetModel", "heardHouse", "[I", true)
  | 13 => ("BirthStreetModel", "heardNumber", "[I", true)
  | 14 => ("BirthStreetModel", "pageLength", "I", false)
  | 15 => ("BirthStreetModel", "page", "[B", true)
  | 16 => ("BirthStreetModel", "savedAge", "[I", true)
  | 17 => ("BirthStreetModel", "seedNow", "J", false)
  | 18 => ("BirthStreetModel", "isKept", "Z", false)
  | 19 => ("BirthStreetModel", "keptStreet", "I", false)
  | 20 => ("BirthStreetModel", "keptToday", "I", false)
  | 21 => ("BirthStreetModel", "keptBirths", "I", false)
  | 22 => ("BirthStreetModel", "keptDebts", "I", false)
  | 23 => ("BirthStreetModel", "keptHeard", "I", false)
  | 24 => ("BirthStreetModel", "keptAge", "[I", true)
  | 25 => ("BirthStreetModel", "keptBirthsOf", "[I", true)
  | 26 => ("BirthStreetModel", "keptThen", "[I", true)
  | 27 => ("BirthStreetModel", "keptMuch", "[I", true)
  | 28 => ("BirthStreetModel", "keptNumber", "[I", true)
  | 29 => ("BirthStreetModel", "keptHouse", "[I", true)
  | 30 => ("BirthStreetModel", "keptHeardNumber", "[I", true)
  | _ => ("BirthStreetModel", "h", "J", false)
def tyX3 : Nat → FieldType := fun k => match k with
  | 0 => .int
  | 1 => .int
  | 2 => .array .int
  | 3 => .array .int
  | 4 => .array .int
  | 5 => .array .int
  | 6 => .int
  | 7 => .int
  | 8 => .int
  | 9 => .array .int
  | 10 => .array .int
  | 11 => .int
  | 12 => .array .int
  | 13 => .array .int
  | 14 => .int
  | 15 => .array .byte
  | 16 => .array .int
  | 17 => .long
  | 18 => .boolean
  | 19 => .int
  | 20 => .int
  | 21 => .int
  | 22 => .int
  | 23 => .int
  | 24 => .array .int
  | 25 => .array .int
  | 26 => .array .int
  | 27 => .array .int
  | 28 => .array .int
  | 29 => .array .int
  | 30 => .array .int
  | _ => .long
abbrev wsX30 : List Cond := u_ws RX3 TX3 32
theorem nmX3 : ∀ a, a < 32 → ∀ b, b < 32 → a ≠ b → (TX3 a).2.1 ≠ (TX3 b).2.1 := by decide +kernel
theorem tyX3_ok : ∀ k, k < 32 → parseFieldDescriptor (TX3 k).2.2.1 = some (tyX3 k) := by decide +kernel
abbrev cX3_init : ByteArray := prog_5_method_1_code
def yX3_init : MethodName := ⟨RX3, "<init>", "()V"⟩
abbrev cX3_within : ByteArray := prog_5_method_3_code
def yX3_within : MethodName := ⟨RX3, "within", "(III)Z"⟩
abbrev cX3_isIn : ByteArray := prog_5_method_4_code
def yX3_isIn : MethodName := ⟨RX3, "isIn", "(II)Z"⟩
abbrev cX3_size : ByteArray := prog_5_method_5_code
def yX3_size : MethodName := ⟨RX3, "size", "(I)I"⟩
abbrev cX3_letter : ByteArray := prog_5_method_6_code
def yX3_letter : MethodName := ⟨RX3, "letter", "(I)I"⟩
abbrev cX3_blank : ByteArray := prog_5_method_7_code
def yX3_blank : MethodName := ⟨RX3, "blank", "()I"⟩
abbrev cX3_kindBy : ByteArray := prog_5_method_8_code
def yX3_kindBy : MethodName := ⟨RX3, "kindBy", "(I)I"⟩
abbrev cX3_isGood : ByteArray := prog_5_method_9_code
def yX3_isGood : MethodName := ⟨RX3, "isGood", "(I)Z"⟩
abbrev cX3_faultNow : ByteArray := prog_5_method_10_code
def yX3_faultNow : MethodName := ⟨RX3, "faultNow", "()I"⟩
abbrev cX3_fault : ByteArray := prog_5_method_11_code
def yX3_fault : MethodName := ⟨RX3, "fault", "()I"⟩
abbrev cX3_street : ByteArray := prog_5_method_12_code
def yX3_street : MethodName := ⟨RX3, "street", "()I"⟩
abbrev cX3_isHouse : ByteArray := prog_5_method_13_code
def yX3_isHouse : MethodName := ⟨RX3, "isHouse", "(I)Z"⟩
abbrev cX3_isDay : ByteArray := prog_5_method_14_code
def yX3_isDay : MethodName := ⟨RX3, "isDay", "(I)Z"⟩
abbrev cX3_numberBy : ByteArray := prog_5_method_15_code
def yX3_numberBy : MethodName := ⟨RX3, "numberBy", "(II)I"⟩
abbrev cX3_number : ByteArray := prog_5_method_16_code
def yX3_number : MethodName := ⟨RX3, "number", "(I)I"⟩
abbrev cX3_numberOn : ByteArray := prog_5_method_17_code
def yX3_numberOn : MethodName := ⟨RX3, "numberOn", "(II)I"⟩
abbrev cX3_mayBirth : ByteArray := prog_5_method_18_code
def yX3_mayBirth : MethodName := ⟨RX3, "mayBirth", "(I)Z"⟩
abbrev cX3_lends : ByteArray := prog_5_method_19_code
def yX3_lends : MethodName := ⟨RX3, "lends", "(I)Z"⟩
abbrev cX3_ageNone : ByteArray := prog_5_method_20_code
def yX3_ageNone : MethodName := ⟨RX3, "ageNone", "(I)V"⟩
abbrev cX3_ageMore : ByteArray := prog_5_method_21_code
def yX3_ageMore : MethodName := ⟨RX3, "ageMore", "()V"⟩
abbrev cX3_orderOf : ByteArray := prog_5_method_22_code
def yX3_orderOf : MethodName := ⟨RX3, "orderOf", "(I)I"⟩
abbrev cX3_walkNow : ByteArray := prog_5_method_23_code
def yX3_walkNow : MethodName := ⟨RX3, "walkNow", "()I"⟩
abbrev cX3_houseOf : ByteArray := prog_5_method_24_code
def yX3_houseOf : MethodName := ⟨RX3, "houseOf", "(II)I"⟩
abbrev cX3_owes : ByteArray := prog_5_method_25_code
def yX3_owes : MethodName := ⟨RX3, "owes", "(I)I"⟩
abbrev cX3_houseNow : ByteArray := prog_5_method_26_code
def yX3_houseNow : MethodName := ⟨RX3, "houseNow", "(II)I"⟩
abbrev cX3_about : ByteArray := prog_5_method_27_code
def yX3_about : MethodName := ⟨RX3, "about", "(II)I"⟩
abbrev cX3_as : ByteArray := prog_5_method_28_code
def yX3_as : MethodName := ⟨RX3, "as", "(II)I"⟩
abbrev cX3_birth : ByteArray := prog_5_method_29_code
def yX3_birth : MethodName := ⟨RX3, "birth", "(I)I"⟩
abbrev cX3_day : ByteArray := prog_5_method_30_code
def yX3_day : MethodName := ⟨RX3, "day", "()I"⟩
abbrev cX3_then : ByteArray := prog_5_method_31_code
def yX3_then : MethodName := ⟨RX3, "then", "(II)I"⟩
abbrev cX3_goesTo : ByteArray := prog_5_method_32_code
def yX3_goesTo : MethodName := ⟨RX3, "goesTo", "(II)I"⟩
abbrev cX3_walk : ByteArray := prog_5_method_33_code
def yX3_walk : MethodName := ⟨RX3, "walk", "()I"⟩
abbrev cX3_debt : ByteArray := prog_5_method_34_code
def yX3_debt : MethodName := ⟨RX3, "debt", "(II)I"⟩
abbrev cX3_pay : ByteArray := prog_5_method_35_code
def yX3_pay : MethodName := ⟨RX3, "pay", "()I"⟩
abbrev cX3_save : ByteArray := prog_5_method_36_code
def yX3_save : MethodName := ⟨RX3, "save", "()V"⟩
abbrev cX3_load : ByteArray := prog_5_method_37_code
def yX3_load : MethodName := ⟨RX3, "load", "()V"⟩
abbrev cX3_numbersAll : ByteArray := prog_5_method_38_code
def yX3_numbersAll : MethodName := ⟨RX3, "numbersAll", "()I"⟩
abbrev cX3_numbersBy : ByteArray := prog_5_method_39_code
def yX3_numbersBy : MethodName := ⟨RX3, "numbersBy", "(I)I"⟩
abbrev cX3_cheapNow : ByteArray := prog_5_method_40_code
def yX3_cheapNow : MethodName := ⟨RX3, "cheapNow", "(II)I"⟩
abbrev cX3_cheap : ByteArray := prog_5_method_41_code
def yX3_cheap : MethodName := ⟨RX3, "cheap", "(II)I"⟩
abbrev cX3_whenNow : ByteArray := prog_5_method_42_code
def yX3_whenNow : MethodName := ⟨RX3, "whenNow", "(II)I"⟩
abbrev cX3_when : ByteArray := prog_5_method_43_code
def yX3_when : MethodName := ⟨RX3, "when", "(II)I"⟩
abbrev cX3_hear : ByteArray := prog_5_method_44_code
def yX3_hear : MethodName := ⟨RX3, "hear", "(II)I"⟩
abbrev cX3_forget : ByteArray := prog_5_method_45_code
def yX3_forget : MethodName := ⟨RX3, "forget", "()I"⟩
abbrev cX3_isHeard : ByteArray := prog_5_method_46_code
def yX3_isHeard : MethodName := ⟨RX3, "isHeard", "(I)Z"⟩
abbrev cX3_daysNow : ByteArray := prog_5_method_47_code
def yX3_daysNow : MethodName := ⟨RX3, "daysNow", "(I)I"⟩
abbrev cX3_days : ByteArray := prog_5_method_48_code
def yX3_days : MethodName := ⟨RX3, "days", "(I)I"⟩
abbrev cX3_worstOf : ByteArray := prog_5_method_49_code
def yX3_worstOf : MethodName := ⟨RX3, "worstOf", "(I)I"⟩
abbrev cX3_askNow : ByteArray := prog_5_method_50_code
def yX3_askNow : MethodName := ⟨RX3, "askNow", "()I"⟩
abbrev cX3_ask : ByteArray := prog_5_method_51_code
def yX3_ask : MethodName := ⟨RX3, "ask", "()I"⟩
abbrev cX3_draw : ByteArray := prog_5_method_52_code
def yX3_draw : MethodName := ⟨RX3, "draw", "(I)I"⟩
abbrev cX3_yearsNow : ByteArray := prog_5_method_53_code
def yX3_yearsNow : MethodName := ⟨RX3, "yearsNow", "(III)I"⟩
abbrev cX3_years : ByteArray := prog_5_method_54_code
def yX3_years : MethodName := ⟨RX3, "years", "(III)I"⟩
abbrev cX3_image : ByteArray := prog_5_method_55_code
def yX3_image : MethodName := ⟨RX3, "image", "()I"⟩
abbrev cX3_restore : ByteArray := prog_5_method_56_code
def yX3_restore : MethodName := ⟨RX3, "restore", "()I"⟩
abbrev cX3_unlike : ByteArray := prog_5_method_57_code
def yX3_unlike : MethodName := ⟨RX3, "unlike", "()I"⟩
abbrev cX3_owesAll : ByteArray := prog_5_method_58_code
def yX3_owesAll : MethodName := ⟨RX3, "owesAll", "()I"⟩
abbrev cX3_howMany : ByteArray := prog_5_method_59_code
def yX3_howMany : MethodName := ⟨RX3, "howMany", "(I)I"⟩
abbrev cX3_count : ByteArray := prog_5_method_60_code
def yX3_count : MethodName := ⟨RX3, "count", "(I)I"⟩
abbrev cX3_mix : ByteArray := prog_5_method_61_code
def yX3_mix : MethodName := ⟨RX3, "mix", "(J)V"⟩
abbrev cX3_mixHouse : ByteArray := prog_5_method_62_code
def yX3_mixHouse : MethodName := ⟨RX3, "mixHouse", "(I)V"⟩
abbrev cX3_digest : ByteArray := prog_5_method_63_code
def yX3_digest : MethodName := ⟨RX3, "digest", "()J"⟩
def RJ6 : String := "java/lang/Integer"
def TJ6 : u_T := fun k => match k with
  | _ => ("", "", "", false)
def tyJ6 : Nat → FieldType := fun k => match k with
  | _ => .int
abbrev wsJ60 : List Cond := u_ws RJ6 TJ6 0
theorem nmJ6 : ∀ a, a < 0 → ∀ b, b < 0 → a ≠ b → (TJ6 a).2.1 ≠ (TJ6 b).2.1 := by decide +kernel
theorem tyJ6_ok : ∀ k, k < 0 → parseFieldDescriptor (TJ6 k).2.2.1 = some (tyJ6 k) := by decide +kernel
abbrev cJ6_bitCount_0f7a4 : ByteArray := prog_6_method_49_code
def yJ6_bitCount_0f7a4 : MethodName := ⟨RJ6, "bitCount", "(I)I"⟩
def RJ9 : String := "java/lang/Math"
def TJ9 : u_T := fun k => match k with
  | _ => ("", "", "", false)
def tyJ9 : Nat → FieldType := fun k => match k with
  | _ => .int
abbrev wsJ90 : List Cond := u_ws RJ9 TJ9 0
theorem nmJ9 : ∀ a, a < 0 → ∀ b, b < 0 → a ≠ b → (TJ9 a).2.1 ≠ (TJ9 b).2.1 := by decide +kernel
theorem tyJ9_ok : ∀ k, k < 0 → parseFieldDescriptor (TJ9 k).2.2.1 = some (tyJ9 k) := by decide +kernel
abbrev cJ9_abs_0f7a4 : ByteArray := prog_7_method_59_code
def yJ9_abs_0f7a4 : MethodName := ⟨RJ9, "abs", "(I)I"⟩
abbrev cJ9_max_7cf53 : ByteArray := prog_7_method_65_code
def yJ9_max_7cf53 : MethodName := ⟨RJ9, "max", "(II)I"⟩
def RJ0 : String := "java/lang/String"
def TJ0 : u_T := fun k => match k with
  | _ => ("", "", "", false)
def tyJ0 : Nat → FieldType := fun k => match k with
  | _ => .int
abbrev wsJ00 : List Cond := u_ws RJ0 TJ0 0
theorem nmJ0 : ∀ a, a < 0 → ∀ b, b < 0 → a ≠ b → (TJ0 a).2.1 ≠ (TJ0 b).2.1 := by decide +kernel
theorem tyJ0_ok : ∀ k, k < 0 → parseFieldDescriptor (TJ0 k).2.2.1 = some (tyJ0 k) := by decide +kernel
abbrev cJ0_length_8abf5 : ByteArray := prog_8_method_54_code
def yJ0_length_8abf5 : MethodName := ⟨RJ0, "length", "()I"⟩
abbrev cJ0_charAt_5068e : ByteArray := prog_8_method_56_code
def yJ0_charAt_5068e : MethodName := ⟨RJ0, "charAt", "(I)C"⟩
abbrev cJ0_coder_7d493 : ByteArray := prog_8_method_152_code
def yJ0_coder_7d493 : MethodName := ⟨RJ0, "coder", "()B"⟩
abbrev cJ0_isLatin1_aae02 : ByteArray := prog_8_method_154_code
def yJ0_isLatin1_aae02 : MethodName := ⟨RJ0, "isLatin1", "()Z"⟩
abbrev cJ0_checkIndex_df160 : ByteArray := prog_8_method_155_code
def yJ0_checkIndex_df160 : MethodName := ⟨RJ0, "checkIndex", "(II)V"⟩
def RJ1 : String := "java/lang/StringLatin1"
def TJ1 : u_T := fun k => match k with
  | _ => ("", "", "", false)
def tyJ1 : Nat → FieldType := fun k => match k with
  | _ => .int
abbrev wsJ10 : List Cond := u_ws RJ1 TJ1 0
theorem nmJ1 : ∀ a, a < 0 → ∀ b, b < 0 → a ≠ b → (TJ1 a).2.1 ≠ (TJ1 b).2.1 := by decide +kernel
theorem tyJ1_ok : ∀ k, k < 0 → parseFieldDescriptor (TJ1 k).2.2.1 = some (tyJ1 k) := by decide +kernel
abbrev cJ1_charAt_3b067 : ByteArray := prog_9_method_2_code
def yJ1_charAt_3b067 : MethodName := ⟨RJ1, "charAt", "([BI)C"⟩
def RJ2 : String := "java/lang/StringUTF16"
def TJ2 : u_T := fun k => match k with
  | _ => ("", "", "", false)
def tyJ2 : Nat → FieldType := fun k => match k with
  | _ => .int
abbrev wsJ20 : List Cond := u_ws RJ2 TJ2 0
theorem nmJ2 : ∀ a, a < 0 → ∀ b, b < 0 → a ≠ b → (TJ2 a).2.1 ≠ (TJ2 b).2.1 := by decide +kernel
theorem tyJ2_ok : ∀ k, k < 0 → parseFieldDescriptor (TJ2 k).2.2.1 = some (tyJ2 k) := by decide +kernel
abbrev cJ2_getChar_3b067 : ByteArray := prog_10_method_5_code
def yJ2_getChar_3b067 : MethodName := ⟨RJ2, "getChar", "([BI)C"⟩
abbrev cJ2_length_9d52b : ByteArray := prog_10_method_6_code
def yJ2_length_9d52b : MethodName := ⟨RJ2, "length", "([B)I"⟩
abbrev cJ2_charAt_3b067 : ByteArray := prog_10_method_83_code
def yJ2_charAt_3b067 : MethodName := ⟨RJ2, "charAt", "([BI)C"⟩
abbrev cJ2_checkIndex_2214a : ByteArray := prog_10_method_91_code
def yJ2_checkIndex_2214a : MethodName := ⟨RJ2, "checkIndex", "(I[B)V"⟩
def RJ3 : String := "jdk/internal/util/Preconditions"
def TJ3 : u_T := fun k => match k with
  | _ => ("", "", "", false)
def tyJ3 : Nat → FieldType := fun k => match k with
  | _ => .int
abbrev wsJ30 : List Cond := u_ws RJ3 TJ3 0
theorem nmJ3 : ∀ a, a < 0 → ∀ b, b < 0 → a ≠ b → (TJ3 a).2.1 ≠ (TJ3 b).2.1 := by decide +kernel
theorem tyJ3_ok : ∀ k, k < 0 → parseFieldDescriptor (TJ3 k).2.2.1 = some (tyJ3 k) := by decide +kernel
abbrev cJ3_checkIndex_8e157 : ByteArray := prog_11_method_11_code
def yJ3_checkIndex_8e157 : MethodName := ⟨RJ3, "checkIndex", "(IILjava/util/function/BiFunction;)I"⟩
def RL : String := "BirthStreetLaw"
abbrev cL_law : ByteArray := code
def yL_law : MethodName := ⟨RL, "law", "([I)Z"⟩
def wsX1_init : List Cond := .code yX1_init cX1_init 2 none :: ([.methodLink RX1 1 objectInit, .instanceMethod objectInit, .code objectInit ⟨#[0xb1]⟩ 1 none, .arrayClass .int, .fieldLink RX1 7 "BirthStreet$Row" "cells" "[I"] ++ wsX10)
def wsX0_init : List Cond := .code yX0_init cX0_init 1 none :: ([.methodLink RX0 3 objectInit, .instanceMethod objectInit, .code objectInit ⟨#[0xb1]⟩ 1 none, .fieldLink RX0 9 "BirthStreet$Moment" "today" "I", .fieldLink RX0 15 "BirthStreet$Moment" "births" "I", .fieldLink RX0 18 "BirthStreet$Moment" "debts" "I", .fieldLink RX0 21 "BirthStreet$Moment" "heard" "I", .classLink RX0 24 RX1, .instantiable RX1 1, .initialized RX1, .fieldLink RX0 29 "BirthStreet$Moment" "ages" "LBirthStreet$Row;", .fieldLink RX0 33 "BirthStreet$Moment" "pastAges" "LBirthStreet$Row;", .fieldLink RX0 36 "BirthStreet$Moment" "birthsIn" "LBirthStreet$Row;", .fieldLink RX0 39 "BirthStreet$Moment" "debtAmounts" "LBirthStreet$Row;", .fieldLink RX0 42 "BirthStreet$Moment" "debtNumbers" "LBirthStreet$Row;", .fieldLink RX0 45 "BirthStreet$Moment" "heardHouses" "LBirthStreet$Row;", .fieldLink RX0 48 "BirthStreet$Moment" "heardNumbers" "LBirthStreet$Row;", .methodLink RX0 26 yX1_init, .instanceMethod yX1_init, .code yX1_init cX1_init 2 none, .methodLink RX1 1 objectInit, .arrayClass .int, .fieldLink RX1 7 "BirthStreet$Row" "cells" "[I"] ++ wsX00 ++ wsX10)
def wsX1_clear : List Cond := .code yX1_clear cX1_clear 2 none :: ([.fieldLink RX1 7 "BirthStreet$Row" "cells" "[I"] ++ wsX10)
def wsX0_startAnew : List Cond := .code yX0_startAnew cX0_startAnew 1 none :: ([.fieldLink RX0 9 "BirthStreet$Moment" "today" "I", .fieldLink RX0 15 "BirthStreet$Moment" "births" "I", .fieldLink RX0 18 "BirthStreet$Moment" "debts" "I", .fieldLink RX0 21 "BirthStreet$Moment" "heard" "I", .fieldLink RX0 36 "BirthStreet$Moment" "birthsIn" "LBirthStreet$Row;", .methodLink RX0 51 yX1_clear, .instanceMethod yX1_clear, .selects RX1 yX1_clear yX1_clear, .initialized RX1, .code yX1_clear cX1_clear 2 none, .fieldLink RX1 7 "BirthStreet$Row" "cells" "[I"] ++ wsX00 ++ wsX10)
def wsX1_at : List Cond := .code yX1_at cX1_at 2 (some .int) :: ([.fieldLink RX1 7 "BirthStreet$Row" "cells" "[I"] ++ wsX10)
def wsX1_take : List Cond := .code yX1_take cX1_take 3 none :: ([.fieldLink RX1 7 "BirthStreet$Row" "cells" "[I", .methodLink RX1 13 yX1_at, .instanceMethod yX1_at, .selects RX1 yX1_at yX1_at, .initialized RX1, .code yX1_at cX1_at 2 (some .int)] ++ wsX10)
def wsX0_take : List Cond := .code yX0_take cX0_take 2 none :: ([.fieldLink RX0 9 "BirthStreet$Moment" "today" "I", .fieldLink RX0 15 "BirthStreet$Moment" "births" "I", .fieldLink RX0 18 "BirthStreet$Moment" "debts" "I", .fieldLink RX0 21 "BirthStreet$Moment" "heard" "I", .fieldLink RX0 29 "BirthStreet$Moment" "ages" "LBirthStreet$Row;", .fieldLink RX0 33 "BirthStreet$Moment" "pastAges" "LBirthStreet$Row;", .fieldLink RX0 36 "BirthStreet$Moment" "birthsIn" "LBirthStreet$Row;", .fieldLink RX0 39 "BirthStreet$Moment" "debtAmounts" "LBirthStreet$Row;", .fieldLink RX0 42 "BirthStreet$Moment" "debtNumbers" "LBirthStreet$Row;", .fieldLink RX0 45 "BirthStreet$Moment" "heardHouses" "LBirthStreet$Row;", .fieldLink RX0 48 "BirthStreet$Moment" "heardNumbers" "LBirthStreet$Row;", .methodLink RX0 54 yX1_take, .instanceMethod yX1_take, .selects RX1 yX1_take yX1_take, .initialized RX1, .code yX1_take cX1_take 3 none, .fieldLink RX1 7 "BirthStreet$Row" "cells" "[I", .methodLink RX1 13 yX1_at, .instanceMethod yX1_at, .selects RX1 yX1_at yX1_at, .code yX1_at cX1_at 2 (some .int)] ++ wsX00 ++ wsX10)
def wsX1_put : List Cond := .code yX1_put cX1_put 3 none :: ([.fieldLink RX1 7 "BirthStreet$Row" "cells" "[I"] ++ wsX10)
def wsX1_add : List Cond := .code yX1_add cX1_add 3 none :: ([.methodLink RX1 13 yX1_at, .instanceMethod yX1_at, .selects RX1 yX1_at yX1_at, .initialized RX1, .code yX1_at cX1_at 2 (some .int), .fieldLink RX1 7 "BirthStreet$Row" "cells" "[I", .methodLink RX1 17 yX1_put, .instanceMethod yX1_put, .selects RX1 yX1_put yX1_put, .code yX1_put cX1_put 3 none] ++ wsX10)
def wsX2_init_r1 : List Cond := [Cond.methodLink RX2 3 objectInit, Cond.instanceMethod objectInit, Cond.code objectInit ⟨#[0xb1]⟩ 1 none, Cond.classLink RX2 9 RX1, Cond.instantiable RX1 1, Cond.initialized RX1, Cond.fieldLink RX2 14 "BirthStreet" "page" "LBirthStreet$Row;", Cond.fieldLink RX2 18 "BirthStreet" "letters" "I", Cond.fieldLink RX2 22 "BirthStreet" "houses" "I", Cond.fieldLink RX2 25 "BirthStreet" "streetsRead" "I", Cond.fieldLink RX2 28 "BirthStreet" "kinds" "LBirthStreet$Row;", Cond.classLink RX2 31 RX0, Cond.instantiable RX0 11, Cond.initialized RX0, Cond.fieldLink RX2 34 "BirthStreet" "now" "LBirthStreet$Moment;", Cond.fieldLink RX2 38 "BirthStreet" "kept" "LBirthStreet$Moment;", Cond.fieldLink RX2 41 "BirthStreet" "isKept" "Z", Cond.fieldLink RX2 45 "BirthStreet" "wouldBe" "LBirthStreet$Row;", Cond.fieldLink RX2 48 "BirthStreet" "possible" "LBirthStreet$Row;", Cond.fieldLink RX2 51 "BirthStreet" "tally" "LBirthStreet$Row;", Cond.methodLink RX2 11 yX1_init, Cond.instanceMethod yX1_init, Cond.code yX1_init cX1_init 2 none, Cond.methodLink RX1 1 objectInit]
def wsX2_init_r2 : List Cond := [Cond.arrayClass .int, Cond.fieldLink RX1 7 "BirthStreet$Row" "cells" "[I", Cond.instanceMethod yX0_init, Cond.code yX0_init cX0_init 1 none, Cond.methodLink RX0 3 objectInit, Cond.fieldLink RX0 9 "BirthStreet$Moment" "today" "I", Cond.fieldLink RX0 15 "BirthStreet$Moment" "births" "I", Cond.fieldLink RX0 18 "BirthStreet$Moment" "debts" "I", Cond.fieldLink RX0 21 "BirthStreet$Moment" "heard" "I", Cond.classLink RX0 24 RX1, Cond.fieldLink RX0 29 "BirthStreet$Moment" "ages" "LBirthStreet$Row;", Cond.fieldLink RX0 33 "BirthStreet$Moment" "pastAges" "LBirthStreet$Row;", Cond.fieldLink RX0 36 "BirthStreet$Moment" "birthsIn" "LBirthStreet$Row;", Cond.fieldLink RX0 39 "BirthStreet$Moment" "debtAmounts" "LBirthStreet$Row;", Cond.fieldLink RX0 42 "BirthStreet$Moment" "debtNumbers" "LBirthStreet$Row;", Cond.fieldLink RX0 45 "BirthStreet$Moment" "heardHouses" "LBirthStreet$Row;", Cond.fieldLink RX0 48 "BirthStreet$Moment" "heardNumbers" "LBirthStreet$Row;", Cond.methodLink RX0 26 yX1_init]
def wsX2_init : List Cond := .code yX2_init cX2_init 1 none :: ((wsX2_init_r1 ++ wsX2_init_r2) ++ wsX10 ++ wsX20 ++ wsX00)
def wsX2_letter : List Cond := .code yX2_letter cX2_letter 2 (some .int) :: ([.fieldLink RX2 18 "BirthStreet" "letters" "I", .fieldLink RX2 14 "BirthStreet" "page" "LBirthStreet$Row;", .methodLink RX2 54 yX1_put, .instanceMethod yX1_put, .selects RX1 yX1_put yX1_put, .initialized RX1, .code yX1_put cX1_put 3 none, .fieldLink RX1 7 "BirthStreet$Row" "cells" "[I"] ++ wsX20 ++ wsX10)
def wsX2_blank : List Cond := .code yX2_blank cX2_blank 2 (some .int) :: ([.fieldLink RX2 18 "BirthStreet" "letters" "I"] ++ wsX20)
def wsJ0_coder_7d493 : List Cond := .code yJ0_coder_7d493 cJ0_coder_7d493 1 (some .byte) :: ([.fieldLink RJ0 38 "java/lang/String" "COMPACT_STRINGS" "Z", .fieldLink RJ0 15 "java/lang/String" "coder" "B"])
def wsJ0_length_8abf5 : List Cond := .code yJ0_length_8abf5 cJ0_length_8abf5 1 (some .int) :: ([.fieldLink RJ0 9 "java/lang/String" "value" "[B", .methodLink RJ0 335 yJ0_coder_7d493, .instanceMethod yJ0_coder_7d493, .selects RJ0 yJ0_coder_7d493 yJ0_coder_7d493, .initialized RJ0, .code yJ0_coder_7d493 cJ0_coder_7d493 1 (some .byte), .fieldLink RJ0 38 "java/lang/String" "COMPACT_STRINGS" "Z", .fieldLink RJ0 15 "java/lang/String" "coder" "B"])
def wsJ0_isLatin1_aae02 : List Cond := .code yJ0_isLatin1_aae02 cJ0_isLatin1_aae02 1 (some .boolean) :: ([.fieldLink RJ0 38 "java/lang/String" "COMPACT_STRINGS" "Z", .fieldLink RJ0 15 "java/lang/String" "coder" "B"])
def wsJ3_checkIndex_8e157 : List Cond := .code yJ3_checkIndex_8e157 cJ3_checkIndex_8e157 3 (some .int) :: ([])
def wsJ0_checkIndex_df160 : List Cond := .code yJ0_checkIndex_df160 cJ0_checkIndex_df160 2 none :: ([.fieldLink RJ0 1053 "jdk/internal/util/Preconditions" "SIOOBE_FORMATTER" "Ljava/util/function/BiFunction;", .methodLink RJ0 1059 yJ3_checkIndex_8e157, .static yJ3_checkIndex_8e157, .initialized RJ3, .code yJ3_checkIndex_8e157 cJ3_checkIndex_8e157 3 (some .int)])
def wsJ1_charAt_3b067 : List Cond := .code yJ1_charAt_3b067 cJ1_charAt_3b067 2 (some .char) :: ([.methodLink RJ1 9 yJ0_checkIndex_df160, .static yJ0_checkIndex_df160, .initialized RJ0, .code yJ0_checkIndex_df160 cJ0_checkIndex_df160 2 none, .fieldLink RJ0 1053 "jdk/internal/util/Preconditions" "SIOOBE_FORMATTER" "Ljava/util/function/BiFunction;", .methodLink RJ0 1059 yJ3_checkIndex_8e157, .static yJ3_checkIndex_8e157, .initialized RJ3, .code yJ3_checkIndex_8e157 cJ3_checkIndex_8e157 3 (some .int)])
def wsJ2_length_9d52b : List Cond := .code yJ2_length_9d52b cJ2_length_9d52b 1 (some .int) :: ([])
def wsJ2_checkIndex_2214a : List Cond := .code yJ2_checkIndex_2214a cJ2_checkIndex_2214a 2 none :: ([.methodLink RJ2 48 yJ2_length_9d52b, .static yJ2_length_9d52b, .initialized RJ2, .code yJ2_length_9d52b cJ2_length_9d52b 1 (some .int), .methodLink RJ2 414 yJ0_checkIndex_df160, .static yJ0_checkIndex_df160, .initialized RJ0, .code yJ0_checkIndex_df160 cJ0_checkIndex_df160 2 none, .fieldLink RJ0 1053 "jdk/internal/util/Preconditions" "SIOOBE_FORMATTER" "Ljava/util/function/BiFunction;", .methodLink RJ0 1059 yJ3_checkIndex_8e157, .static yJ3_checkIndex_8e157, .initialized RJ3, .code yJ3_checkIndex_8e157 cJ3_checkIndex_8e157 3 (some .int)])
def wsJ2_getChar_3b067 : List Cond := .code yJ2_getChar_3b067 cJ2_getChar_3b067 2 (some .char) :: ([.fieldLink RJ2 44 "java/lang/StringUTF16" "$assertionsDisabled" "Z", .fieldLink RJ2 59 "java/lang/StringUTF16" "HI_BYTE_SHIFT" "I", .fieldLink RJ2 63 "java/lang/StringUTF16" "LO_BYTE_SHIFT" "I", .methodLink RJ2 48 yJ2_length_9d52b, .static yJ2_length_9d52b, .initialized RJ2, .code yJ2_length_9d52b cJ2_length_9d52b 1 (some .int)])
def wsJ2_charAt_3b067 : List Cond := .code yJ2_charAt_3b067 cJ2_charAt_3b067 2 (some .char) :: ([.methodLink RJ2 67 yJ2_checkIndex_2214a, .static yJ2_checkIndex_2214a, .initialized RJ2, .code yJ2_checkIndex_2214a cJ2_checkIndex_2214a 2 none, .methodLink RJ2 48 yJ2_length_9d52b, .static yJ2_length_9d52b, .code yJ2_length_9d52b cJ2_length_9d52b 1 (some .int), .methodLink RJ2 414 yJ0_checkIndex_df160, .static yJ0_checkIndex_df160, .initialized RJ0, .code yJ0_checkIndex_df160 cJ0_checkIndex_df160 2 none, .fieldLink RJ0 1053 "jdk/internal/util/Preconditions" "SIOOBE_FORMATTER" "Ljava/util/function/BiFunction;", .methodLink RJ0 1059 yJ3_checkIndex_8e157, .static yJ3_checkIndex_8e157, .initialized RJ3, .code yJ3_checkIndex_8e157 cJ3_checkIndex_8e157 3 (some .int), .methodLink RJ2 71 yJ2_getChar_3b067, .static yJ2_getChar_3b067, .code yJ2_getChar_3b067 cJ2_getChar_3b067 2 (some .char), .fieldLink RJ2 44 "java/lang/StringUTF16" "$assertionsDisabled" "Z", .fieldLink RJ2 59 "java/lang/StringUTF16" "HI_BYTE_SHIFT" "I", .fieldLink RJ2 63 "java/lang/StringUTF16" "LO_BYTE_SHIFT" "I"])
def wsJ0_charAt_5068e_r1 : List Cond := [Cond.fieldLink RJ0 9 "java/lang/String" "value" "[B", Cond.methodLink RJ0 492 yJ0_isLatin1_aae02, Cond.instanceMethod yJ0_isLatin1_aae02, Cond.selects RJ0 yJ0_isLatin1_aae02 yJ0_isLatin1_aae02, Cond.initialized RJ0, Cond.code yJ0_isLatin1_aae02 cJ0_isLatin1_aae02 1 (some .boolean), Cond.fieldLink RJ0 38 "java/lang/String" "COMPACT_STRINGS" "Z", Cond.fieldLink RJ0 15 "java/lang/String" "coder" "B", Cond.methodLink RJ0 495 yJ1_charAt_3b067, Cond.static yJ1_charAt_3b067, Cond.initialized RJ1, Cond.code yJ1_charAt_3b067 cJ1_charAt_3b067 2 (some .char), Cond.methodLink RJ1 9 yJ0_checkIndex_df160, Cond.static yJ0_checkIndex_df160, Cond.code yJ0_checkIndex_df160 cJ0_checkIndex_df160 2 none, Cond.fieldLink RJ0 1053 "jdk/internal/util/Preconditions" "SIOOBE_FORMATTER" "Ljava/util/function/BiFunction;", Cond.methodLink RJ0 1059 yJ3_checkIndex_8e157, Cond.static yJ3_checkIndex_8e157, Cond.initialized RJ3, Cond.code yJ3_checkIndex_8e157 cJ3_checkIndex_8e157 3 (some .int), Cond.methodLink RJ0 498 yJ2_charAt_3b067, Cond.static yJ2_charAt_3b067, Cond.initialized RJ2, Cond.code yJ2_charAt_3b067 cJ2_charAt_3b067 2 (some .char)]
def wsJ0_charAt_5068e_r2 : List Cond := [Cond.methodLink RJ2 67 yJ2_checkIndex_2214a, Cond.static yJ2_checkIndex_2214a, Cond.code yJ2_checkIndex_2214a cJ2_checkIndex_2214a 2 none, Cond.methodLink RJ2 48 yJ2_length_9d52b, Cond.static yJ2_length_9d52b, Cond.code yJ2_length_9d52b cJ2_length_9d52b 1 (some .int), Cond.methodLink RJ2 414 yJ0_checkIndex_df160, Cond.methodLink RJ2 71 yJ2_getChar_3b067, Cond.static yJ2_getChar_3b067, Cond.code yJ2_getChar_3b067 cJ2_getChar_3b067 2 (some .char), Cond.fieldLink RJ2 44 "java/lang/StringUTF16" "$assertionsDisabled" "Z", Cond.fieldLink RJ2 59 "java/lang/StringUTF16" "HI_BYTE_SHIFT" "I", Cond.fieldLink RJ2 63 "java/lang/StringUTF16" "LO_BYTE_SHIFT" "I"]
def wsJ0_charAt_5068e : List Cond := .code yJ0_charAt_5068e cJ0_charAt_5068e 2 (some .char) :: ((wsJ0_charAt_5068e_r1 ++ wsJ0_charAt_5068e_r2))
def wsX2_kindOfLetter_r1 : List Cond := [Cond.methodLink RX2 235 yJ0_length_8abf5, Cond.instanceMethod yJ0_length_8abf5, Cond.selects RJ0 yJ0_length_8abf5 yJ0_length_8abf5, Cond.initialized RJ0, Cond.code yJ0_length_8abf5 cJ0_length_8abf5 1 (some .int), Cond.fieldLink RJ0 9 "java/lang/String" "value" "[B", Cond.methodLink RJ0 335 yJ0_coder_7d493, Cond.instanceMethod yJ0_coder_7d493, Cond.selects RJ0 yJ0_coder_7d493 yJ0_coder_7d493, Cond.code yJ0_coder_7d493 cJ0_coder_7d493 1 (some .byte), Cond.fieldLink RJ0 38 "java/lang/String" "COMPACT_STRINGS" "Z", Cond.fieldLink RJ0 15 "java/lang/String" "coder" "B", Cond.methodLink RX2 240 yJ0_charAt_5068e, Cond.instanceMethod yJ0_charAt_5068e, Cond.selects RJ0 yJ0_charAt_5068e yJ0_charAt_5068e, Cond.code yJ0_charAt_5068e cJ0_charAt_5068e 2 (some .char), Cond.methodLink RJ0 492 yJ0_isLatin1_aae02, Cond.instanceMethod yJ0_isLatin1_aae02, Cond.selects RJ0 yJ0_isLatin1_aae02 yJ0_isLatin1_aae02, Cond.code yJ0_isLatin1_aae02 cJ0_isLatin1_aae02 1 (some .boolean), Cond.methodLink RJ0 495 yJ1_charAt_3b067, Cond.static yJ1_charAt_3b067, Cond.initialized RJ1, Cond.code yJ1_charAt_3b067 cJ1_charAt_3b067 2 (some .char)]
def wsX2_kindOfLetter_r2 : List Cond := [Cond.methodLink RJ1 9 yJ0_checkIndex_df160, Cond.static yJ0_checkIndex_df160, Cond.code yJ0_checkIndex_df160 cJ0_checkIndex_df160 2 none, Cond.fieldLink RJ0 1053 "jdk/internal/util/Preconditions" "SIOOBE_FORMATTER" "Ljava/util/function/BiFunction;", Cond.methodLink RJ0 1059 yJ3_checkIndex_8e157, Cond.static yJ3_checkIndex_8e157, Cond.initialized RJ3, Cond.code yJ3_checkIndex_8e157 cJ3_checkIndex_8e157 3 (some .int), Cond.methodLink RJ0 498 yJ2_charAt_3b067, Cond.static yJ2_charAt_3b067, Cond.initialized RJ2, Cond.code yJ2_charAt_3b067 cJ2_charAt_3b067 2 (some .char), Cond.methodLink RJ2 67 yJ2_checkIndex_2214a, Cond.static yJ2_checkIndex_2214a, Cond.code yJ2_checkIndex_2214a cJ2_checkIndex_2214a 2 none, Cond.methodLink RJ2 48 yJ2_length_9d52b, Cond.static yJ2_length_9d52b, Cond.code yJ2_length_9d52b cJ2_length_9d52b 1 (some .int), Cond.methodLink RJ2 414 yJ0_checkIndex_df160, Cond.methodLink RJ2 71 yJ2_getChar_3b067, Cond.static yJ2_getChar_3b067, Cond.code yJ2_getChar_3b067 cJ2_getChar_3b067 2 (some .char), Cond.fieldLink RJ2 44 "java/lang/StringUTF16" "$assertionsDisabled" "Z", Cond.fieldLink RJ2 59 "java/lang/StringUTF16" "HI_BYTE_SHIFT" "I"]
def wsX2_kindOfLetter_r3 : List Cond := [Cond.fieldLink RJ2 63 "java/lang/StringUTF16" "LO_BYTE_SHIFT" "I"]
def wsX2_kindOfLetter : List Cond := .code yX2_kindOfLetter cX2_kindOfLetter 2 (some .int) :: ((wsX2_kindOfLetter_r1 ++ (wsX2_kindOfLetter_r2 ++ wsX2_kindOfLetter_r3)))
def wsX2_canStandAt_r1 : List Cond := [Cond.methodLink RX2 73 yX2_kindOfLetter, Cond.static yX2_kindOfLetter, Cond.initialized RX2, Cond.code yX2_kindOfLetter cX2_kindOfLetter 2 (some .int), Cond.methodLink RX2 235 yJ0_length_8abf5, Cond.instanceMethod yJ0_length_8abf5, Cond.selects RJ0 yJ0_length_8abf5 yJ0_length_8abf5, Cond.initialized RJ0, Cond.code yJ0_length_8abf5 cJ0_length_8abf5 1 (some .int), Cond.fieldLink RJ0 9 "java/lang/String" "value" "[B", Cond.methodLink RJ0 335 yJ0_coder_7d493, Cond.instanceMethod yJ0_coder_7d493, Cond.selects RJ0 yJ0_coder_7d493 yJ0_coder_7d493, Cond.code yJ0_coder_7d493 cJ0_coder_7d493 1 (some .byte), Cond.fieldLink RJ0 38 "java/lang/String" "COMPACT_STRINGS" "Z", Cond.fieldLink RJ0 15 "java/lang/String" "coder" "B", Cond.methodLink RX2 240 yJ0_charAt_5068e, Cond.instanceMethod yJ0_charAt_5068e, Cond.selects RJ0 yJ0_charAt_5068e yJ0_charAt_5068e, Cond.code yJ0_charAt_5068e cJ0_charAt_5068e 2 (some .char), Cond.methodLink RJ0 492 yJ0_isLatin1_aae02, Cond.instanceMethod yJ0_isLatin1_aae02, Cond.selects RJ0 yJ0_isLatin1_aae02 yJ0_isLatin1_aae02, Cond.code yJ0_isLatin1_aae02 cJ0_isLatin1_aae02 1 (some .boolean)]
def wsX2_canStandAt_r2 : List Cond := [Cond.methodLink RJ0 495 yJ1_charAt_3b067, Cond.static yJ1_charAt_3b067, Cond.initialized RJ1, Cond.code yJ1_charAt_3b067 cJ1_charAt_3b067 2 (some .char), Cond.methodLink RJ1 9 yJ0_checkIndex_df160, Cond.static yJ0_checkIndex_df160, Cond.code yJ0_checkIndex_df160 cJ0_checkIndex_df160 2 none, Cond.fieldLink RJ0 1053 "jdk/internal/util/Preconditions" "SIOOBE_FORMATTER" "Ljava/util/function/BiFunction;", Cond.methodLink RJ0 1059 yJ3_checkIndex_8e157, Cond.static yJ3_checkIndex_8e157, Cond.initialized RJ3, Cond.code yJ3_checkIndex_8e157 cJ3_checkIndex_8e157 3 (some .int), Cond.methodLink RJ0 498 yJ2_charAt_3b067, Cond.static yJ2_charAt_3b067, Cond.initialized RJ2, Cond.code yJ2_charAt_3b067 cJ2_charAt_3b067 2 (some .char), Cond.methodLink RJ2 67 yJ2_checkIndex_2214a, Cond.static yJ2_checkIndex_2214a, Cond.code yJ2_checkIndex_2214a cJ2_checkIndex_2214a 2 none, Cond.methodLink RJ2 48 yJ2_length_9d52b, Cond.static yJ2_length_9d52b, Cond.code yJ2_length_9d52b cJ2_length_9d52b 1 (some .int), Cond.methodLink RJ2 414 yJ0_checkIndex_df160, Cond.methodLink RJ2 71 yJ2_getChar_3b067]
def wsX2_canStandAt_r3 : List Cond := [Cond.static yJ2_getChar_3b067, Cond.code yJ2_getChar_3b067 cJ2_getChar_3b067 2 (some .char), Cond.fieldLink RJ2 44 "java/lang/StringUTF16" "$assertionsDisabled" "Z", Cond.fieldLink RJ2 59 "java/lang/StringUTF16" "HI_BYTE_SHIFT" "I", Cond.fieldLink RJ2 63 "java/lang/StringUTF16" "LO_BYTE_SHIFT" "I"]
def wsX2_canStandAt : List Cond := .code yX2_canStandAt cX2_canStandAt 2 (some .boolean) :: ((wsX2_canStandAt_r1 ++ (wsX2_canStandAt_r2 ++ wsX2_canStandAt_r3)))
def wsX2_fault_r1 : List Cond := [Cond.fieldLink RX2 18 "BirthStreet" "letters" "I", Cond.fieldLink RX2 14 "BirthStreet" "page" "LBirthStreet$Row;", Cond.methodLink RX2 58 yX1_at, Cond.instanceMethod yX1_at, Cond.selects RX1 yX1_at yX1_at, Cond.initialized RX1, Cond.code yX1_at cX1_at 2 (some .int), Cond.fieldLink RX1 7 "BirthStreet$Row" "cells" "[I", Cond.methodLink RX2 62 yX2_canStandAt, Cond.static yX2_canStandAt, Cond.initialized RX2, Cond.code yX2_canStandAt cX2_canStandAt 2 (some .boolean), Cond.methodLink RX2 73 yX2_kindOfLetter, Cond.static yX2_kindOfLetter, Cond.code yX2_kindOfLetter cX2_kindOfLetter 2 (some .int), Cond.methodLink RX2 235 yJ0_length_8abf5, Cond.instanceMethod yJ0_length_8abf5, Cond.selects RJ0 yJ0_length_8abf5 yJ0_length_8abf5, Cond.initialized RJ0, Cond.code yJ0_length_8abf5 cJ0_length_8abf5 1 (some .int), Cond.fieldLink RJ0 9 "java/lang/String" "value" "[B", Cond.methodLink RJ0 335 yJ0_coder_7d493, Cond.instanceMethod yJ0_coder_7d493, Cond.selects RJ0 yJ0_coder_7d493 yJ0_coder_7d493]
def wsX2_fault_r2 : List Cond := [Cond.code yJ0_coder_7d493 cJ0_coder_7d493 1 (some .byte), Cond.fieldLink RJ0 38 "java/lang/String" "COMPACT_STRINGS" "Z", Cond.fieldLink RJ0 15 "java/lang/String" "coder" "B", Cond.methodLink RX2 240 yJ0_charAt_5068e, Cond.instanceMethod yJ0_charAt_5068e, Cond.selects RJ0 yJ0_charAt_5068e yJ0_charAt_5068e, Cond.code yJ0_charAt_5068e cJ0_charAt_5068e 2 (some .char), Cond.methodLink RJ0 492 yJ0_isLatin1_aae02, Cond.instanceMethod yJ0_isLatin1_aae02, Cond.selects RJ0 yJ0_isLatin1_aae02 yJ0_isLatin1_aae02, Cond.code yJ0_isLatin1_aae02 cJ0_isLatin1_aae02 1 (some .boolean), Cond.methodLink RJ0 495 yJ1_charAt_3b067, Cond.static yJ1_charAt_3b067, Cond.initialized RJ1, Cond.code yJ1_charAt_3b067 cJ1_charAt_3b067 2 (some .char), Cond.methodLink RJ1 9 yJ0_checkIndex_df160, Cond.static yJ0_checkIndex_df160, Cond.code yJ0_checkIndex_df160 cJ0_checkIndex_df160 2 none, Cond.fieldLink RJ0 1053 "jdk/internal/util/Preconditions" "SIOOBE_FORMATTER" "Ljava/util/function/BiFunction;", Cond.methodLink RJ0 1059 yJ3_checkIndex_8e157, Cond.static yJ3_checkIndex_8e157, Cond.initialized RJ3, Cond.code yJ3_checkIndex_8e157 cJ3_checkIndex_8e157 3 (some .int), Cond.methodLink RJ0 498 yJ2_charAt_3b067]
def wsX2_fault_r3 : List Cond := [Cond.static yJ2_charAt_3b067, Cond.initialized RJ2, Cond.code yJ2_charAt_3b067 cJ2_charAt_3b067 2 (some .char), Cond.methodLink RJ2 67 yJ2_checkIndex_2214a, Cond.static yJ2_checkIndex_2214a, Cond.code yJ2_checkIndex_2214a cJ2_checkIndex_2214a 2 none, Cond.methodLink RJ2 48 yJ2_length_9d52b, Cond.static yJ2_length_9d52b, Cond.code yJ2_length_9d52b cJ2_length_9d52b 1 (some .int), Cond.methodLink RJ2 414 yJ0_checkIndex_df160, Cond.methodLink RJ2 71 yJ2_getChar_3b067, Cond.static yJ2_getChar_3b067, Cond.code yJ2_getChar_3b067 cJ2_getChar_3b067 2 (some .char), Cond.fieldLink RJ2 44 "java/lang/StringUTF16" "$assertionsDisabled" "Z", Cond.fieldLink RJ2 59 "java/lang/StringUTF16" "HI_BYTE_SHIFT" "I", Cond.fieldLink RJ2 63 "java/lang/StringUTF16" "LO_BYTE_SHIFT" "I"]
def wsX2_fault : List Cond := .code yX2_fault cX2_fault 2 (some .int) :: ((wsX2_fault_r1 ++ (wsX2_fault_r2 ++ wsX2_fault_r3)) ++ wsX20 ++ wsX10)
def wsX2_housesOnPage_r1 : List Cond := [Cond.fieldLink RX2 18 "BirthStreet" "letters" "I", Cond.methodLink RX2 244 yX2_fault, Cond.instanceMethod yX2_fault, Cond.selects RX2 yX2_fault yX2_fault, Cond.initialized RX2, Cond.code yX2_fault cX2_fault 2 (some .int), Cond.fieldLink RX2 14 "BirthStreet" "page" "LBirthStreet$Row;", Cond.methodLink RX2 58 yX1_at, Cond.instanceMethod yX1_at, Cond.selects RX1 yX1_at yX1_at, Cond.initialized RX1, Cond.code yX1_at cX1_at 2 (some .int), Cond.fieldLink RX1 7 "BirthStreet$Row" "cells" "[I", Cond.methodLink RX2 62 yX2_canStandAt, Cond.static yX2_canStandAt, Cond.code yX2_canStandAt cX2_canStandAt 2 (some .boolean), Cond.methodLink RX2 73 yX2_kindOfLetter, Cond.static yX2_kindOfLetter, Cond.code yX2_kindOfLetter cX2_kindOfLetter 2 (some .int), Cond.methodLink RX2 235 yJ0_length_8abf5, Cond.instanceMethod yJ0_length_8abf5, Cond.selects RJ0 yJ0_length_8abf5 yJ0_length_8abf5, Cond.initialized RJ0, Cond.code yJ0_length_8abf5 cJ0_length_8abf5 1 (some .int)]
def wsX2_housesOnPage_r2 : List Cond := [Cond.fieldLink RJ0 9 "java/lang/String" "value" "[B", Cond.methodLink RJ0 335 yJ0_coder_7d493, Cond.instanceMethod yJ0_coder_7d493, Cond.selects RJ0 yJ0_coder_7d493 yJ0_coder_7d493, Cond.code yJ0_coder_7d493 cJ0_coder_7d493 1 (some .byte), Cond.fieldLink RJ0 38 "java/lang/String" "COMPACT_STRINGS" "Z", Cond.fieldLink RJ0 15 "java/lang/String" "coder" "B", Cond.methodLink RX2 240 yJ0_charAt_5068e, Cond.instanceMethod yJ0_charAt_5068e, Cond.selects RJ0 yJ0_charAt_5068e yJ0_charAt_5068e, Cond.code yJ0_charAt_5068e cJ0_charAt_5068e 2 (some .char), Cond.methodLink RJ0 492 yJ0_isLatin1_aae02, Cond.instanceMethod yJ0_isLatin1_aae02, Cond.selects RJ0 yJ0_isLatin1_aae02 yJ0_isLatin1_aae02, Cond.code yJ0_isLatin1_aae02 cJ0_isLatin1_aae02 1 (some .boolean), Cond.methodLink RJ0 495 yJ1_charAt_3b067, Cond.static yJ1_charAt_3b067, Cond.initialized RJ1, Cond.code yJ1_charAt_3b067 cJ1_charAt_3b067 2 (some .char), Cond.methodLink RJ1 9 yJ0_checkIndex_df160, Cond.static yJ0_checkIndex_df160, Cond.code yJ0_checkIndex_df160 cJ0_checkIndex_df160 2 none, Cond.fieldLink RJ0 1053 "jdk/internal/util/Preconditions" "SIOOBE_FORMATTER" "Ljava/util/function/BiFunction;", Cond.methodLink RJ0 1059 yJ3_checkIndex_8e157]
def wsX2_housesOnPage_r3 : List Cond := [Cond.static yJ3_checkIndex_8e157, Cond.initialized RJ3, Cond.code yJ3_checkIndex_8e157 cJ3_checkIndex_8e157 3 (some .int), Cond.methodLink RJ0 498 yJ2_charAt_3b067, Cond.static yJ2_charAt_3b067, Cond.initialized RJ2, Cond.code yJ2_charAt_3b067 cJ2_charAt_3b067 2 (some .char), Cond.methodLink RJ2 67 yJ2_checkIndex_2214a, Cond.static yJ2_checkIndex_2214a, Cond.code yJ2_checkIndex_2214a cJ2_checkIndex_2214a 2 none, Cond.methodLink RJ2 48 yJ2_length_9d52b, Cond.static yJ2_length_9d52b, Cond.code yJ2_length_9d52b cJ2_length_9d52b 1 (some .int), Cond.methodLink RJ2 414 yJ0_checkIndex_df160, Cond.methodLink RJ2 71 yJ2_getChar_3b067, Cond.static yJ2_getChar_3b067, Cond.code yJ2_getChar_3b067 cJ2_getChar_3b067 2 (some .char), Cond.fieldLink RJ2 44 "java/lang/StringUTF16" "$assertionsDisabled" "Z", Cond.fieldLink RJ2 59 "java/lang/StringUTF16" "HI_BYTE_SHIFT" "I", Cond.fieldLink RJ2 63 "java/lang/StringUTF16" "LO_BYTE_SHIFT" "I"]
def wsX2_housesOnPage : List Cond := .code yX2_housesOnPage cX2_housesOnPage 2 (some .int) :: ((wsX2_housesOnPage_r1 ++ (wsX2_housesOnPage_r2 ++ wsX2_housesOnPage_r3)) ++ wsX20 ++ wsX10)
def wsX2_street_r1 : List Cond := [Cond.fieldLink RX2 22 "BirthStreet" "houses" "I", Cond.fieldLink RX2 34 "BirthStreet" "now" "LBirthStreet$Moment;", Cond.fieldLink RX2 28 "BirthStreet" "kinds" "LBirthStreet$Row;", Cond.fieldLink RX2 14 "BirthStreet" "page" "LBirthStreet$Row;", Cond.fieldLink RX2 41 "BirthStreet" "isKept" "Z", Cond.fieldLink RX2 18 "BirthStreet" "letters" "I", Cond.fieldLink RX2 25 "BirthStreet" "streetsRead" "I", Cond.methodLink RX2 66 yX2_housesOnPage, Cond.instanceMethod yX2_housesOnPage, Cond.selects RX2 yX2_housesOnPage yX2_housesOnPage, Cond.initialized RX2, Cond.code yX2_housesOnPage cX2_housesOnPage 2 (some .int), Cond.methodLink RX2 244 yX2_fault, Cond.instanceMethod yX2_fault, Cond.selects RX2 yX2_fault yX2_fault, Cond.code yX2_fault cX2_fault 2 (some .int), Cond.methodLink RX2 58 yX1_at, Cond.instanceMethod yX1_at, Cond.selects RX1 yX1_at yX1_at, Cond.initialized RX1, Cond.code yX1_at cX1_at 2 (some .int), Cond.fieldLink RX1 7 "BirthStreet$Row" "cells" "[I", Cond.methodLink RX2 62 yX2_canStandAt, Cond.static yX2_canStandAt]
def wsX2_street_r2 : List Cond := [Cond.code yX2_canStandAt cX2_canStandAt 2 (some .boolean), Cond.methodLink RX2 73 yX2_kindOfLetter, Cond.static yX2_kindOfLetter, Cond.code yX2_kindOfLetter cX2_kindOfLetter 2 (some .int), Cond.methodLink RX2 235 yJ0_length_8abf5, Cond.instanceMethod yJ0_length_8abf5, Cond.selects RJ0 yJ0_length_8abf5 yJ0_length_8abf5, Cond.initialized RJ0, Cond.code yJ0_length_8abf5 cJ0_length_8abf5 1 (some .int), Cond.fieldLink RJ0 9 "java/lang/String" "value" "[B", Cond.methodLink RJ0 335 yJ0_coder_7d493, Cond.instanceMethod yJ0_coder_7d493, Cond.selects RJ0 yJ0_coder_7d493 yJ0_coder_7d493, Cond.code yJ0_coder_7d493 cJ0_coder_7d493 1 (some .byte), Cond.fieldLink RJ0 38 "java/lang/String" "COMPACT_STRINGS" "Z", Cond.fieldLink RJ0 15 "java/lang/String" "coder" "B", Cond.methodLink RX2 240 yJ0_charAt_5068e, Cond.instanceMethod yJ0_charAt_5068e, Cond.selects RJ0 yJ0_charAt_5068e yJ0_charAt_5068e, Cond.code yJ0_charAt_5068e cJ0_charAt_5068e 2 (some .char), Cond.methodLink RJ0 492 yJ0_isLatin1_aae02, Cond.instanceMethod yJ0_isLatin1_aae02, Cond.selects RJ0 yJ0_isLatin1_aae02 yJ0_isLatin1_aae02, Cond.code yJ0_isLatin1_aae02 cJ0_isLatin1_aae02 1 (some .boolean)]
def wsX2_street_r3 : List Cond := [Cond.methodLink RJ0 495 yJ1_charAt_3b067, Cond.static yJ1_charAt_3b067, Cond.initialized RJ1, Cond.code yJ1_charAt_3b067 cJ1_charAt_3b067 2 (some .char), Cond.methodLink RJ1 9 yJ0_checkIndex_df160, Cond.static yJ0_checkIndex_df160, Cond.code yJ0_checkIndex_df160 cJ0_checkIndex_df160 2 none, Cond.fieldLink RJ0 1053 "jdk/internal/util/Preconditions" "SIOOBE_FORMATTER" "Ljava/util/function/BiFunction;", Cond.methodLink RJ0 1059 yJ3_checkIndex_8e157, Cond.static yJ3_checkIndex_8e157, Cond.initialized RJ3, Cond.code yJ3_checkIndex_8e157 cJ3_checkIndex_8e157 3 (some .int), Cond.methodLink RJ0 498 yJ2_charAt_3b067, Cond.static yJ2_charAt_3b067, Cond.initialized RJ2, Cond.code yJ2_charAt_3b067 cJ2_charAt_3b067 2 (some .char), Cond.methodLink RJ2 67 yJ2_checkIndex_2214a, Cond.static yJ2_checkIndex_2214a, Cond.code yJ2_checkIndex_2214a cJ2_checkIndex_2214a 2 none, Cond.methodLink RJ2 48 yJ2_length_9d52b, Cond.static yJ2_length_9d52b, Cond.code yJ2_length_9d52b cJ2_length_9d52b 1 (some .int), Cond.methodLink RJ2 414 yJ0_checkIndex_df160, Cond.methodLink RJ2 71 yJ2_getChar_3b067]
def wsX2_street_r4 : List Cond := [Cond.static yJ2_getChar_3b067, Cond.code yJ2_getChar_3b067 cJ2_getChar_3b067 2 (some .char), Cond.fieldLink RJ2 44 "java/lang/StringUTF16" "$assertionsDisabled" "Z", Cond.fieldLink RJ2 59 "java/lang/StringUTF16" "HI_BYTE_SHIFT" "I", Cond.fieldLink RJ2 63 "java/lang/StringUTF16" "LO_BYTE_SHIFT" "I", Cond.methodLink RX2 70 yX0_startAnew, Cond.instanceMethod yX0_startAnew, Cond.selects RX0 yX0_startAnew yX0_startAnew, Cond.initialized RX0, Cond.code yX0_startAnew cX0_startAnew 1 none, Cond.fieldLink RX0 9 "BirthStreet$Moment" "today" "I", Cond.fieldLink RX0 15 "BirthStreet$Moment" "births" "I", Cond.fieldLink RX0 18 "BirthStreet$Moment" "debts" "I", Cond.fieldLink RX0 21 "BirthStreet$Moment" "heard" "I", Cond.fieldLink RX0 36 "BirthStreet$Moment" "birthsIn" "LBirthStreet$Row;", Cond.methodLink RX0 51 yX1_clear, Cond.instanceMethod yX1_clear, Cond.selects RX1 yX1_clear yX1_clear, Cond.code yX1_clear cX1_clear 2 none, Cond.methodLink RX2 54 yX1_put, Cond.instanceMethod yX1_put, Cond.selects RX1 yX1_put yX1_put, Cond.code yX1_put cX1_put 3 none]
def wsX2_street : List Cond := .code yX2_street cX2_street 4 (some .int) :: ((wsX2_street_r1 ++ (wsX2_street_r2 ++ (wsX2_street_r3 ++ wsX2_street_r4))) ++ wsX20 ++ wsX00 ++ wsX10)
def wsX2_isHouse : List Cond := .code yX2_isHouse cX2_isHouse 2 (some .boolean) :: ([.fieldLink RX2 22 "BirthStreet" "houses" "I"] ++ wsX20)
def wsX2_numberOf : List Cond := .code yX2_numberOf cX2_numberOf 2 (some .int) :: ([])
def wsX2_numberAt : List Cond := .code yX2_numberAt cX2_numberAt 3 (some .int) :: ([.fieldLink RX2 28 "BirthStreet" "kinds" "LBirthStreet$Row;", .methodLink RX2 58 yX1_at, .instanceMethod yX1_at, .selects RX1 yX1_at yX1_at, .initialized RX1, .code yX1_at cX1_at 2 (some .int), .fieldLink RX1 7 "BirthStreet$Row" "cells" "[I", .methodLink RX2 156 yX2_numberOf, .static yX2_numberOf, .initialized RX2, .code yX2_numberOf cX2_numberOf 2 (some .int)] ++ wsX20 ++ wsX10)
def wsX2_numberNow : List Cond := .code yX2_numberNow cX2_numberNow 2 (some .int) :: ([.fieldLink RX2 34 "BirthStreet" "now" "LBirthStreet$Moment;", .methodLink RX2 247 yX2_numberAt, .instanceMethod yX2_numberAt, .selects RX2 yX2_numberAt yX2_numberAt, .initialized RX2, .code yX2_numberAt cX2_numberAt 3 (some .int), .fieldLink RX2 28 "BirthStreet" "kinds" "LBirthStreet$Row;", .methodLink RX2 58 yX1_at, .instanceMethod yX1_at, .selects RX1 yX1_at yX1_at, .initialized RX1, .code yX1_at cX1_at 2 (some .int), .fieldLink RX1 7 "BirthStreet$Row" "cells" "[I", .methodLink RX2 156 yX2_numberOf, .static yX2_numberOf, .code yX2_numberOf cX2_numberOf 2 (some .int)] ++ wsX20 ++ wsX00 ++ wsX10)
def wsX2_cellOf : List Cond := .code yX2_cellOf cX2_cellOf 2 (some .int) :: ([])
def wsX2_numberOn : List Cond := .code yX2_numberOn cX2_numberOn 4 (some .int) :: ([.fieldLink RX2 34 "BirthStreet" "now" "LBirthStreet$Moment;", .fieldLink RX2 28 "BirthStreet" "kinds" "LBirthStreet$Row;", .methodLink RX2 58 yX1_at, .instanceMethod yX1_at, .selects RX1 yX1_at yX1_at, .initialized RX1, .code yX1_at cX1_at 2 (some .int), .fieldLink RX1 7 "BirthStreet$Row" "cells" "[I", .methodLink RX2 118 yX2_cellOf, .static yX2_cellOf, .initialized RX2, .code yX2_cellOf cX2_cellOf 2 (some .int), .methodLink RX2 156 yX2_numberOf, .static yX2_numberOf, .code yX2_numberOf cX2_numberOf 2 (some .int)] ++ wsX20 ++ wsX00 ++ wsX10)
def wsX2_houseWith : List Cond := .code yX2_houseWith cX2_houseWith 4 (some .int) :: ([.fieldLink RX2 22 "BirthStreet" "houses" "I", .methodLink RX2 129 yX2_numberOn, .instanceMethod yX2_numberOn, .selects RX2 yX2_numberOn yX2_numberOn, .initialized RX2, .code yX2_numberOn cX2_numberOn 4 (some .int), .fieldLink RX2 34 "BirthStreet" "now" "LBirthStreet$Moment;", .fieldLink RX2 28 "BirthStreet" "kinds" "LBirthStreet$Row;", .methodLink RX2 58 yX1_at, .instanceMethod yX1_at, .selects RX1 yX1_at yX1_at, .initialized RX1, .code yX1_at cX1_at 2 (some .int), .fieldLink RX1 7 "BirthStreet$Row" "cells" "[I", .methodLink RX2 118 yX2_cellOf, .static yX2_cellOf, .code yX2_cellOf cX2_cellOf 2 (some .int), .methodLink RX2 156 yX2_numberOf, .static yX2_numberOf, .code yX2_numberOf cX2_numberOf 2 (some .int)] ++ wsX20 ++ wsX00 ++ wsX10)
def wsX2_owedBy : List Cond := .code yX2_owedBy cX2_owedBy 4 (some .int) :: ([.fieldLink RX2 34 "BirthStreet" "now" "LBirthStreet$Moment;", .methodLink RX2 58 yX1_at, .instanceMethod yX1_at, .selects RX1 yX1_at yX1_at, .initialized RX1, .code yX1_at cX1_at 2 (some .int), .fieldLink RX1 7 "BirthStreet$Row" "cells" "[I", .methodLink RX2 132 yX2_houseWith, .instanceMethod yX2_houseWith, .selects RX2 yX2_houseWith yX2_houseWith, .initialized RX2, .code yX2_houseWith cX2_houseWith 4 (some .int), .fieldLink RX2 22 "BirthStreet" "houses" "I", .methodLink RX2 129 yX2_numberOn, .instanceMethod yX2_numberOn, .selects RX2 yX2_numberOn yX2_numberOn, .code yX2_numberOn cX2_numberOn 4 (some .int), .fieldLink RX2 28 "BirthStreet" "kinds" "LBirthStreet$Row;", .methodLink RX2 118 yX2_cellOf, .static yX2_cellOf, .code yX2_cellOf cX2_cellOf 2 (some .int), .methodLink RX2 156 yX2_numberOf, .static yX2_numberOf, .code yX2_numberOf cX2_numberOf 2 (some .int)] ++ wsX20 ++ wsX00 ++ wsX10)
def wsX2_turnInWalk : List Cond := .code yX2_turnInWalk cX2_turnInWalk 7 (some .int) :: ([.fieldLink RX2 22 "BirthStreet" "houses" "I", .methodLink RX2 247 yX2_numberAt, .instanceMethod yX2_numberAt, .selects RX2 yX2_numberAt yX2_numberAt, .initialized RX2, .code yX2_numberAt cX2_numberAt 3 (some .int), .fieldLink RX2 28 "BirthStreet" "kinds" "LBirthStreet$Row;", .methodLink RX2 58 yX1_at, .instanceMethod yX1_at, .selects RX1 yX1_at yX1_at, .initialized RX1, .code yX1_at cX1_at 2 (some .int), .fieldLink RX1 7 "BirthStreet$Row" "cells" "[I", .methodLink RX2 156 yX2_numberOf, .static yX2_numberOf, .code yX2_numberOf cX2_numberOf 2 (some .int)] ++ wsX20 ++ wsX10)
def wsX2_about_r1 : List Cond := [Cond.fieldLink RX2 28 "BirthStreet" "kinds" "LBirthStreet$Row;", Cond.fieldLink RX2 34 "BirthStreet" "now" "LBirthStreet$Moment;", Cond.methodLink RX2 79 yX2_isHouse, Cond.instanceMethod yX2_isHouse, Cond.selects RX2 yX2_isHouse yX2_isHouse, Cond.initialized RX2, Cond.code yX2_isHouse cX2_isHouse 2 (some .boolean), Cond.fieldLink RX2 22 "BirthStreet" "houses" "I", Cond.methodLink RX2 58 yX1_at, Cond.instanceMethod yX1_at, Cond.selects RX1 yX1_at yX1_at, Cond.initialized RX1, Cond.code yX1_at cX1_at 2 (some .int), Cond.fieldLink RX1 7 "BirthStreet$Row" "cells" "[I", Cond.methodLink RX2 83 yX2_numberNow, Cond.instanceMethod yX2_numberNow, Cond.selects RX2 yX2_numberNow yX2_numberNow, Cond.code yX2_numberNow cX2_numberNow 2 (some .int), Cond.methodLink RX2 247 yX2_numberAt, Cond.instanceMethod yX2_numberAt, Cond.selects RX2 yX2_numberAt yX2_numberAt, Cond.code yX2_numberAt cX2_numberAt 3 (some .int), Cond.methodLink RX2 156 yX2_numberOf, Cond.static yX2_numberOf]
def wsX2_about_r2 : List Cond := [Cond.code yX2_numberOf cX2_numberOf 2 (some .int), Cond.methodLink RX2 89 yX2_owedBy, Cond.instanceMethod yX2_owedBy, Cond.selects RX2 yX2_owedBy yX2_owedBy, Cond.code yX2_owedBy cX2_owedBy 4 (some .int), Cond.methodLink RX2 132 yX2_houseWith, Cond.instanceMethod yX2_houseWith, Cond.selects RX2 yX2_houseWith yX2_houseWith, Cond.code yX2_houseWith cX2_houseWith 4 (some .int), Cond.methodLink RX2 129 yX2_numberOn, Cond.instanceMethod yX2_numberOn, Cond.selects RX2 yX2_numberOn yX2_numberOn, Cond.code yX2_numberOn cX2_numberOn 4 (some .int), Cond.methodLink RX2 118 yX2_cellOf, Cond.static yX2_cellOf, Cond.code yX2_cellOf cX2_cellOf 2 (some .int), Cond.methodLink RX2 92 yX2_turnInWalk, Cond.instanceMethod yX2_turnInWalk, Cond.selects RX2 yX2_turnInWalk yX2_turnInWalk, Cond.code yX2_turnInWalk cX2_turnInWalk 7 (some .int)]
def wsX2_about : List Cond := .code yX2_about cX2_about 3 (some .int) :: ((wsX2_about_r1 ++ wsX2_about_r2) ++ wsX20 ++ wsX00 ++ wsX10)
def wsX2_isA : List Cond := .code yX2_isA cX2_isA 2 (some .boolean) :: ([])
def wsX2_as : List Cond := .code yX2_as cX2_as 3 (some .int) :: ([.fieldLink RX2 28 "BirthStreet" "kinds" "LBirthStreet$Row;", .methodLink RX2 79 yX2_isHouse, .instanceMethod yX2_isHouse, .selects RX2 yX2_isHouse yX2_isHouse, .initialized RX2, .code yX2_isHouse cX2_isHouse 2 (some .boolean), .fieldLink RX2 22 "BirthStreet" "houses" "I", .methodLink RX2 58 yX1_at, .instanceMethod yX1_at, .selects RX1 yX1_at yX1_at, .initialized RX1, .code yX1_at cX1_at 2 (some .int), .fieldLink RX1 7 "BirthStreet$Row" "cells" "[I", .methodLink RX2 96 yX2_isA, .static yX2_isA, .code yX2_isA cX2_isA 2 (some .boolean)] ++ wsX20 ++ wsX10)
def wsX2_lendsACradle : List Cond := .code yX2_lendsACradle cX2_lendsACradle 2 (some .boolean) :: ([.fieldLink RX2 28 "BirthStreet" "kinds" "LBirthStreet$Row;", .methodLink RX2 79 yX2_isHouse, .instanceMethod yX2_isHouse, .selects RX2 yX2_isHouse yX2_isHouse, .initialized RX2, .code yX2_isHouse cX2_isHouse 2 (some .boolean), .fieldLink RX2 22 "BirthStreet" "houses" "I", .methodLink RX2 58 yX1_at, .instanceMethod yX1_at, .selects RX1 yX1_at yX1_at, .initialized RX1, .code yX1_at cX1_at 2 (some .int), .fieldLink RX1 7 "BirthStreet$Row" "cells" "[I", .methodLink RX2 96 yX2_isA, .static yX2_isA, .code yX2_isA cX2_isA 2 (some .boolean)] ++ wsX20 ++ wsX10)
def wsX2_bear : List Cond := .code yX2_bear cX2_bear 3 none :: ([.methodLink RX2 54 yX1_put, .instanceMethod yX1_put, .selects RX1 yX1_put yX1_put, .initialized RX1, .code yX1_put cX1_put 3 none, .fieldLink RX1 7 "BirthStreet$Row" "cells" "[I", .methodLink RX2 109 yX2_lendsACradle, .instanceMethod yX2_lendsACradle, .selects RX2 yX2_lendsACradle yX2_lendsACradle, .initialized RX2, .code yX2_lendsACradle cX2_lendsACradle 2 (some .boolean), .fieldLink RX2 28 "BirthStreet" "kinds" "LBirthStreet$Row;", .methodLink RX2 79 yX2_isHouse, .instanceMethod yX2_isHouse, .selects RX2 yX2_isHouse yX2_isHouse, .code yX2_isHouse cX2_isHouse 2 (some .boolean), .fieldLink RX2 22 "BirthStreet" "houses" "I", .methodLink RX2 58 yX1_at, .instanceMethod yX1_at, .selects RX1 yX1_at yX1_at, .code yX1_at cX1_at 2 (some .int), .methodLink RX2 96 yX2_isA, .static yX2_isA, .code yX2_isA cX2_isA 2 (some .boolean)] ++ wsX10 ++ wsX20)
def wsX2_birth_r1 : List Cond := [Cond.fieldLink RX2 28 "BirthStreet" "kinds" "LBirthStreet$Row;", Cond.fieldLink RX2 34 "BirthStreet" "now" "LBirthStreet$Moment;", Cond.methodLink RX2 79 yX2_isHouse, Cond.instanceMethod yX2_isHouse, Cond.selects RX2 yX2_isHouse yX2_isHouse, Cond.initialized RX2, Cond.code yX2_isHouse cX2_isHouse 2 (some .boolean), Cond.fieldLink RX2 22 "BirthStreet" "houses" "I", Cond.methodLink RX2 58 yX1_at, Cond.instanceMethod yX1_at, Cond.selects RX1 yX1_at yX1_at, Cond.initialized RX1, Cond.code yX1_at cX1_at 2 (some .int), Cond.fieldLink RX1 7 "BirthStreet$Row" "cells" "[I", Cond.methodLink RX2 96 yX2_isA, Cond.static yX2_isA, Cond.code yX2_isA cX2_isA 2 (some .boolean), Cond.methodLink RX2 99 yX2_bear, Cond.instanceMethod yX2_bear, Cond.selects RX2 yX2_bear yX2_bear, Cond.code yX2_bear cX2_bear 3 none, Cond.methodLink RX2 54 yX1_put, Cond.instanceMethod yX1_put, Cond.selects RX1 yX1_put yX1_put]
def wsX2_birth_r2 : List Cond := [Cond.code yX1_put cX1_put 3 none, Cond.methodLink RX2 109 yX2_lendsACradle, Cond.instanceMethod yX2_lendsACradle, Cond.selects RX2 yX2_lendsACradle yX2_lendsACradle, Cond.code yX2_lendsACradle cX2_lendsACradle 2 (some .boolean), Cond.methodLink RX2 106 yX1_add, Cond.instanceMethod yX1_add, Cond.selects RX1 yX1_add yX1_add, Cond.code yX1_add cX1_add 3 none, Cond.methodLink RX1 13 yX1_at, Cond.methodLink RX1 17 yX1_put]
def wsX2_birth : List Cond := .code yX2_birth cX2_birth 2 (some .int) :: ((wsX2_birth_r1 ++ wsX2_birth_r2) ++ wsX20 ++ wsX00 ++ wsX10)
def wsX2_ageNextDay : List Cond := .code yX2_ageNextDay cX2_ageNextDay 2 (some .int) :: ([])
def wsX2_growOlder : List Cond := .code yX2_growOlder cX2_growOlder 3 none :: ([.fieldLink RX2 22 "BirthStreet" "houses" "I", .fieldLink RX2 28 "BirthStreet" "kinds" "LBirthStreet$Row;", .methodLink RX2 58 yX1_at, .instanceMethod yX1_at, .selects RX1 yX1_at yX1_at, .initialized RX1, .code yX1_at cX1_at 2 (some .int), .fieldLink RX1 7 "BirthStreet$Row" "cells" "[I", .methodLink RX2 159 yX2_ageNextDay, .static yX2_ageNextDay, .initialized RX2, .code yX2_ageNextDay cX2_ageNextDay 2 (some .int), .methodLink RX2 54 yX1_put, .instanceMethod yX1_put, .selects RX1 yX1_put yX1_put, .code yX1_put cX1_put 3 none] ++ wsX20 ++ wsX10)
def wsX2_day : List Cond := .code yX2_day cX2_day 2 (some .int) :: ([.fieldLink RX2 22 "BirthStreet" "houses" "I", .fieldLink RX2 34 "BirthStreet" "now" "LBirthStreet$Moment;", .methodLink RX2 118 yX2_cellOf, .static yX2_cellOf, .initialized RX2, .code yX2_cellOf cX2_cellOf 2 (some .int), .methodLink RX2 58 yX1_at, .instanceMethod yX1_at, .selects RX1 yX1_at yX1_at, .initialized RX1, .code yX1_at cX1_at 2 (some .int), .fieldLink RX1 7 "BirthStreet$Row" "cells" "[I", .methodLink RX2 54 yX1_put, .instanceMethod yX1_put, .selects RX1 yX1_put yX1_put, .code yX1_put cX1_put 3 none, .methodLink RX2 122 yX2_growOlder, .instanceMethod yX2_growOlder, .selects RX2 yX2_growOlder yX2_growOlder, .code yX2_growOlder cX2_growOlder 3 none, .fieldLink RX2 28 "BirthStreet" "kinds" "LBirthStreet$Row;", .methodLink RX2 159 yX2_ageNextDay, .static yX2_ageNextDay, .code yX2_ageNextDay cX2_ageNextDay 2 (some .int)] ++ wsX20 ++ wsX00 ++ wsX10)
def wsX2_isDay : List Cond := .code yX2_isDay cX2_isDay 2 (some .boolean) :: ([.fieldLink RX2 22 "BirthStreet" "houses" "I", .fieldLink RX2 34 "BirthStreet" "now" "LBirthStreet$Moment;"] ++ wsX20 ++ wsX00)
def wsX2_then_r1 : List Cond := [Cond.methodLink RX2 79 yX2_isHouse, Cond.instanceMethod yX2_isHouse, Cond.selects RX2 yX2_isHouse yX2_isHouse, Cond.initialized RX2, Cond.code yX2_isHouse cX2_isHouse 2 (some .boolean), Cond.fieldLink RX2 22 "BirthStreet" "houses" "I", Cond.methodLink RX2 126 yX2_isDay, Cond.instanceMethod yX2_isDay, Cond.selects RX2 yX2_isDay yX2_isDay, Cond.code yX2_isDay cX2_isDay 2 (some .boolean), Cond.fieldLink RX2 34 "BirthStreet" "now" "LBirthStreet$Moment;", Cond.methodLink RX2 129 yX2_numberOn, Cond.instanceMethod yX2_numberOn, Cond.selects RX2 yX2_numberOn yX2_numberOn, Cond.code yX2_numberOn cX2_numberOn 4 (some .int), Cond.fieldLink RX2 28 "BirthStreet" "kinds" "LBirthStreet$Row;", Cond.methodLink RX2 58 yX1_at, Cond.instanceMethod yX1_at, Cond.selects RX1 yX1_at yX1_at, Cond.initialized RX1, Cond.code yX1_at cX1_at 2 (some .int), Cond.fieldLink RX1 7 "BirthStreet$Row" "cells" "[I", Cond.methodLink RX2 118 yX2_cellOf, Cond.static yX2_cellOf]
def wsX2_then_r2 : List Cond := [Cond.code yX2_cellOf cX2_cellOf 2 (some .int), Cond.methodLink RX2 156 yX2_numberOf, Cond.static yX2_numberOf, Cond.code yX2_numberOf cX2_numberOf 2 (some .int)]
def wsX2_then : List Cond := .code yX2_then cX2_then 3 (some .int) :: ((wsX2_then_r1 ++ wsX2_then_r2) ++ wsX20 ++ wsX00 ++ wsX10)
def wsX2_goesTo_r1 : List Cond := [Cond.methodLink RX2 126 yX2_isDay, Cond.instanceMethod yX2_isDay, Cond.selects RX2 yX2_isDay yX2_isDay, Cond.initialized RX2, Cond.code yX2_isDay cX2_isDay 2 (some .boolean), Cond.fieldLink RX2 22 "BirthStreet" "houses" "I", Cond.fieldLink RX2 34 "BirthStreet" "now" "LBirthStreet$Moment;", Cond.methodLink RX2 132 yX2_houseWith, Cond.instanceMethod yX2_houseWith, Cond.selects RX2 yX2_houseWith yX2_houseWith, Cond.code yX2_houseWith cX2_houseWith 4 (some .int), Cond.methodLink RX2 129 yX2_numberOn, Cond.instanceMethod yX2_numberOn, Cond.selects RX2 yX2_numberOn yX2_numberOn, Cond.code yX2_numberOn cX2_numberOn 4 (some .int), Cond.fieldLink RX2 28 "BirthStreet" "kinds" "LBirthStreet$Row;", Cond.methodLink RX2 58 yX1_at, Cond.instanceMethod yX1_at, Cond.selects RX1 yX1_at yX1_at, Cond.initialized RX1, Cond.code yX1_at cX1_at 2 (some .int), Cond.fieldLink RX1 7 "BirthStreet$Row" "cells" "[I", Cond.methodLink RX2 118 yX2_cellOf, Cond.static yX2_cellOf]
def wsX2_goesTo_r2 : List Cond := [Cond.code yX2_cellOf cX2_cellOf 2 (some .int), Cond.methodLink RX2 156 yX2_numberOf, Cond.static yX2_numberOf, Cond.code yX2_numberOf cX2_numberOf 2 (some .int)]
def wsX2_goesTo : List Cond := .code yX2_goesTo cX2_goesTo 3 (some .int) :: ((wsX2_goesTo_r1 ++ wsX2_goesTo_r2) ++ wsX20 ++ wsX00 ++ wsX10)
def wsX2_houseOfTurn : List Cond := .code yX2_houseOfTurn cX2_houseOfTurn 4 (some .int) :: ([.fieldLink RX2 22 "BirthStreet" "houses" "I", .methodLink RX2 92 yX2_turnInWalk, .instanceMethod yX2_turnInWalk, .selects RX2 yX2_turnInWalk yX2_turnInWalk, .initialized RX2, .code yX2_turnInWalk cX2_turnInWalk 7 (some .int), .methodLink RX2 247 yX2_numberAt, .instanceMethod yX2_numberAt, .selects RX2 yX2_numberAt yX2_numberAt, .code yX2_numberAt cX2_numberAt 3 (some .int), .fieldLink RX2 28 "BirthStreet" "kinds" "LBirthStreet$Row;", .methodLink RX2 58 yX1_at, .instanceMethod yX1_at, .selects RX1 yX1_at yX1_at, .initialized RX1, .code yX1_at cX1_at 2 (some .int), .fieldLink RX1 7 "BirthStreet$Row" "cells" "[I", .methodLink RX2 156 yX2_numberOf, .static yX2_numberOf, .code yX2_numberOf cX2_numberOf 2 (some .int)] ++ wsX20 ++ wsX10)
def wsX2_lengthOfWalk_r1 : List Cond := [Cond.fieldLink RX2 22 "BirthStreet" "houses" "I", Cond.methodLink RX2 253 Lib.Math.abs.name, Cond.static Lib.Math.abs.name, Cond.initialized "java/lang/Math", Cond.code Lib.Math.abs.name Lib.Math.abs.code 1 (some .int), Cond.methodLink RX2 250 yX2_houseOfTurn, Cond.instanceMethod yX2_houseOfTurn, Cond.selects RX2 yX2_houseOfTurn yX2_houseOfTurn, Cond.initialized RX2, Cond.code yX2_houseOfTurn cX2_houseOfTurn 4 (some .int), Cond.methodLink RX2 92 yX2_turnInWalk, Cond.instanceMethod yX2_turnInWalk, Cond.selects RX2 yX2_turnInWalk yX2_turnInWalk, Cond.code yX2_turnInWalk cX2_turnInWalk 7 (some .int), Cond.methodLink RX2 247 yX2_numberAt, Cond.instanceMethod yX2_numberAt, Cond.selects RX2 yX2_numberAt yX2_numberAt, Cond.code yX2_numberAt cX2_numberAt 3 (some .int), Cond.fieldLink RX2 28 "BirthStreet" "kinds" "LBirthStreet$Row;", Cond.methodLink RX2 58 yX1_at, Cond.instanceMethod yX1_at, Cond.selects RX1 yX1_at yX1_at, Cond.initialized RX1, Cond.code yX1_at cX1_at 2 (some .int)]
def wsX2_lengthOfWalk_r2 : List Cond := [Cond.fieldLink RX1 7 "BirthStreet$Row" "cells" "[I", Cond.methodLink RX2 156 yX2_numberOf, Cond.static yX2_numberOf, Cond.code yX2_numberOf cX2_numberOf 2 (some .int)]
def wsX2_lengthOfWalk : List Cond := .code yX2_lengthOfWalk cX2_lengthOfWalk 6 (some .int) :: ((wsX2_lengthOfWalk_r1 ++ wsX2_lengthOfWalk_r2) ++ wsX20 ++ wsX10)
def wsX2_walk_r1 : List Cond := [Cond.fieldLink RX2 22 "BirthStreet" "houses" "I", Cond.fieldLink RX2 34 "BirthStreet" "now" "LBirthStreet$Moment;", Cond.methodLink RX2 135 yX2_lengthOfWalk, Cond.instanceMethod yX2_lengthOfWalk, Cond.selects RX2 yX2_lengthOfWalk yX2_lengthOfWalk, Cond.initialized RX2, Cond.code yX2_lengthOfWalk cX2_lengthOfWalk 6 (some .int), Cond.methodLink RX2 253 Lib.Math.abs.name, Cond.static Lib.Math.abs.name, Cond.initialized "java/lang/Math", Cond.code Lib.Math.abs.name Lib.Math.abs.code 1 (some .int), Cond.methodLink RX2 250 yX2_houseOfTurn, Cond.instanceMethod yX2_houseOfTurn, Cond.selects RX2 yX2_houseOfTurn yX2_houseOfTurn, Cond.code yX2_houseOfTurn cX2_houseOfTurn 4 (some .int), Cond.methodLink RX2 92 yX2_turnInWalk, Cond.instanceMethod yX2_turnInWalk, Cond.selects RX2 yX2_turnInWalk yX2_turnInWalk, Cond.code yX2_turnInWalk cX2_turnInWalk 7 (some .int), Cond.methodLink RX2 247 yX2_numberAt, Cond.instanceMethod yX2_numberAt, Cond.selects RX2 yX2_numberAt yX2_numberAt, Cond.code yX2_numberAt cX2_numberAt 3 (some .int), Cond.fieldLink RX2 28 "BirthStreet" "kinds" "LBirthStreet$Row;"]
def wsX2_walk_r2 : List Cond := [Cond.methodLink RX2 58 yX1_at, Cond.instanceMethod yX1_at, Cond.selects RX1 yX1_at yX1_at, Cond.initialized RX1, Cond.code yX1_at cX1_at 2 (some .int), Cond.fieldLink RX1 7 "BirthStreet$Row" "cells" "[I", Cond.methodLink RX2 156 yX2_numberOf, Cond.static yX2_numberOf, Cond.code yX2_numberOf cX2_numberOf 2 (some .int)]
def wsX2_walk : List Cond := .code yX2_walk cX2_walk 1 (some .int) :: ((wsX2_walk_r1 ++ wsX2_walk_r2) ++ wsX20 ++ wsX00 ++ wsX10)
def wsX2_debt : List Cond := .code yX2_debt cX2_debt 3 (some .int) :: ([.fieldLink RX2 22 "BirthStreet" "houses" "I", .fieldLink RX2 34 "BirthStreet" "now" "LBirthStreet$Moment;", .methodLink RX2 54 yX1_put, .instanceMethod yX1_put, .selects RX1 yX1_put yX1_put, .initialized RX1, .code yX1_put cX1_put 3 none, .fieldLink RX1 7 "BirthStreet$Row" "cells" "[I"] ++ wsX20 ++ wsX00 ++ wsX10)
def wsX2_pay : List Cond := .code yX2_pay cX2_pay 3 (some .int) :: ([.fieldLink RX2 34 "BirthStreet" "now" "LBirthStreet$Moment;", .methodLink RX2 58 yX1_at, .instanceMethod yX1_at, .selects RX1 yX1_at yX1_at, .initialized RX1, .code yX1_at cX1_at 2 (some .int), .fieldLink RX1 7 "BirthStreet$Row" "cells" "[I"] ++ wsX20 ++ wsX00 ++ wsX10)
def wsJ6_bitCount_0f7a4 : List Cond := .code yJ6_bitCount_0f7a4 cJ6_bitCount_0f7a4 1 (some .int) :: ([.constant RJ6 265 (1431655765), .constant RJ6 266 (858993459), .constant RJ6 267 (252645135)])
def wsX2_isIn : List Cond := .code yX2_isIn cX2_isIn 2 (some .boolean) :: ([])
def wsX2_mayAllBear : List Cond := .code yX2_mayAllBear cX2_mayAllBear 3 (some .boolean) :: ([.fieldLink RX2 22 "BirthStreet" "houses" "I", .fieldLink RX2 28 "BirthStreet" "kinds" "LBirthStreet$Row;", .methodLink RX2 264 yX2_isIn, .static yX2_isIn, .initialized RX2, .code yX2_isIn cX2_isIn 2 (some .boolean), .methodLink RX2 58 yX1_at, .instanceMethod yX1_at, .selects RX1 yX1_at yX1_at, .initialized RX1, .code yX1_at cX1_at 2 (some .int), .fieldLink RX1 7 "BirthStreet$Row" "cells" "[I", .methodLink RX2 96 yX2_isA, .static yX2_isA, .code yX2_isA cX2_isA 2 (some .boolean)] ++ wsX20 ++ wsX10)
def wsX2_allNumbers : List Cond := .code yX2_allNumbers cX2_allNumbers 4 (some .int) :: ([.fieldLink RX2 22 "BirthStreet" "houses" "I", .methodLink RX2 247 yX2_numberAt, .instanceMethod yX2_numberAt, .selects RX2 yX2_numberAt yX2_numberAt, .initialized RX2, .code yX2_numberAt cX2_numberAt 3 (some .int), .fieldLink RX2 28 "BirthStreet" "kinds" "LBirthStreet$Row;", .methodLink RX2 58 yX1_at, .instanceMethod yX1_at, .selects RX1 yX1_at yX1_at, .initialized RX1, .code yX1_at cX1_at 2 (some .int), .fieldLink RX1 7 "BirthStreet$Row" "cells" "[I", .methodLink RX2 156 yX2_numberOf, .static yX2_numberOf, .code yX2_numberOf cX2_numberOf 2 (some .int)] ++ wsX20 ++ wsX10)
def wsX2_numbersBy_r1 : List Cond := [Cond.fieldLink RX2 45 "BirthStreet" "wouldBe" "LBirthStreet$Row;", Cond.fieldLink RX2 34 "BirthStreet" "now" "LBirthStreet$Moment;", Cond.fieldLink RX2 22 "BirthStreet" "houses" "I", Cond.methodLink RX2 180 yX1_take, Cond.instanceMethod yX1_take, Cond.selects RX1 yX1_take yX1_take, Cond.initialized RX1, Cond.code yX1_take cX1_take 3 none, Cond.fieldLink RX1 7 "BirthStreet$Row" "cells" "[I", Cond.methodLink RX1 13 yX1_at, Cond.instanceMethod yX1_at, Cond.selects RX1 yX1_at yX1_at, Cond.code yX1_at cX1_at 2 (some .int), Cond.methodLink RX2 264 yX2_isIn, Cond.static yX2_isIn, Cond.initialized RX2, Cond.code yX2_isIn cX2_isIn 2 (some .boolean), Cond.methodLink RX2 99 yX2_bear, Cond.instanceMethod yX2_bear, Cond.selects RX2 yX2_bear yX2_bear, Cond.code yX2_bear cX2_bear 3 none, Cond.methodLink RX2 54 yX1_put, Cond.instanceMethod yX1_put, Cond.selects RX1 yX1_put yX1_put]
def wsX2_numbersBy_r2 : List Cond := [Cond.code yX1_put cX1_put 3 none, Cond.methodLink RX2 109 yX2_lendsACradle, Cond.instanceMethod yX2_lendsACradle, Cond.selects RX2 yX2_lendsACradle yX2_lendsACradle, Cond.code yX2_lendsACradle cX2_lendsACradle 2 (some .boolean), Cond.fieldLink RX2 28 "BirthStreet" "kinds" "LBirthStreet$Row;", Cond.methodLink RX2 79 yX2_isHouse, Cond.instanceMethod yX2_isHouse, Cond.selects RX2 yX2_isHouse yX2_isHouse, Cond.code yX2_isHouse cX2_isHouse 2 (some .boolean), Cond.methodLink RX2 58 yX1_at, Cond.methodLink RX2 96 yX2_isA, Cond.static yX2_isA, Cond.code yX2_isA cX2_isA 2 (some .boolean), Cond.methodLink RX2 192 yX2_allNumbers, Cond.instanceMethod yX2_allNumbers, Cond.selects RX2 yX2_allNumbers yX2_allNumbers, Cond.code yX2_allNumbers cX2_allNumbers 4 (some .int), Cond.methodLink RX2 247 yX2_numberAt, Cond.instanceMethod yX2_numberAt, Cond.selects RX2 yX2_numberAt yX2_numberAt, Cond.code yX2_numberAt cX2_numberAt 3 (some .int), Cond.methodLink RX2 156 yX2_numberOf, Cond.static yX2_numberOf]
def wsX2_numbersBy_r3 : List Cond := [Cond.code yX2_numberOf cX2_numberOf 2 (some .int)]
def wsX2_numbersBy : List Cond := .code yX2_numbersBy cX2_numbersBy 3 (some .int) :: ((wsX2_numbersBy_r1 ++ (wsX2_numbersBy_r2 ++ wsX2_numbersBy_r3)) ++ wsX20 ++ wsX00 ++ wsX10)
def wsX2_cheapestSet_r1 : List Cond := [Cond.fieldLink RX2 22 "BirthStreet" "houses" "I", Cond.methodLink RX2 151 yJ6_bitCount_0f7a4, Cond.static yJ6_bitCount_0f7a4, Cond.initialized RJ6, Cond.code yJ6_bitCount_0f7a4 cJ6_bitCount_0f7a4 1 (some .int), Cond.constant RJ6 265 (1431655765), Cond.constant RJ6 266 (858993459), Cond.constant RJ6 267 (252645135), Cond.methodLink RX2 258 yX2_mayAllBear, Cond.instanceMethod yX2_mayAllBear, Cond.selects RX2 yX2_mayAllBear yX2_mayAllBear, Cond.initialized RX2, Cond.code yX2_mayAllBear cX2_mayAllBear 3 (some .boolean), Cond.fieldLink RX2 28 "BirthStreet" "kinds" "LBirthStreet$Row;", Cond.methodLink RX2 264 yX2_isIn, Cond.static yX2_isIn, Cond.code yX2_isIn cX2_isIn 2 (some .boolean), Cond.methodLink RX2 58 yX1_at, Cond.instanceMethod yX1_at, Cond.selects RX1 yX1_at yX1_at, Cond.initialized RX1, Cond.code yX1_at cX1_at 2 (some .int), Cond.fieldLink RX1 7 "BirthStreet$Row" "cells" "[I", Cond.methodLink RX2 96 yX2_isA]
def wsX2_cheapestSet_r2 : List Cond := [Cond.static yX2_isA, Cond.code yX2_isA cX2_isA 2 (some .boolean), Cond.methodLink RX2 261 yX2_numbersBy, Cond.instanceMethod yX2_numbersBy, Cond.selects RX2 yX2_numbersBy yX2_numbersBy, Cond.code yX2_numbersBy cX2_numbersBy 3 (some .int), Cond.fieldLink RX2 45 "BirthStreet" "wouldBe" "LBirthStreet$Row;", Cond.fieldLink RX2 34 "BirthStreet" "now" "LBirthStreet$Moment;", Cond.methodLink RX2 180 yX1_take, Cond.instanceMethod yX1_take, Cond.selects RX1 yX1_take yX1_take, Cond.code yX1_take cX1_take 3 none, Cond.methodLink RX1 13 yX1_at, Cond.methodLink RX2 99 yX2_bear, Cond.instanceMethod yX2_bear, Cond.selects RX2 yX2_bear yX2_bear, Cond.code yX2_bear cX2_bear 3 none, Cond.methodLink RX2 54 yX1_put, Cond.instanceMethod yX1_put, Cond.selects RX1 yX1_put yX1_put, Cond.code yX1_put cX1_put 3 none, Cond.methodLink RX2 109 yX2_lendsACradle, Cond.instanceMethod yX2_lendsACradle, Cond.selects RX2 yX2_lendsACradle yX2_lendsACradle]
def wsX2_cheapestSet_r3 : List Cond := [Cond.code yX2_lendsACradle cX2_lendsACradle 2 (some .boolean), Cond.methodLink RX2 79 yX2_isHouse, Cond.instanceMethod yX2_isHouse, Cond.selects RX2 yX2_isHouse yX2_isHouse, Cond.code yX2_isHouse cX2_isHouse 2 (some .boolean), Cond.methodLink RX2 192 yX2_allNumbers, Cond.instanceMethod yX2_allNumbers, Cond.selects RX2 yX2_allNumbers yX2_allNumbers, Cond.code yX2_allNumbers cX2_allNumbers 4 (some .int), Cond.methodLink RX2 247 yX2_numberAt, Cond.instanceMethod yX2_numberAt, Cond.selects RX2 yX2_numberAt yX2_numberAt, Cond.code yX2_numberAt cX2_numberAt 3 (some .int), Cond.methodLink RX2 156 yX2_numberOf, Cond.static yX2_numberOf, Cond.code yX2_numberOf cX2_numberOf 2 (some .int)]
def wsX2_cheapestSet : List Cond := .code yX2_cheapestSet cX2_cheapestSet 5 (some .int) :: ((wsX2_cheapestSet_r1 ++ (wsX2_cheapestSet_r2 ++ wsX2_cheapestSet_r3)) ++ wsX20 ++ wsX10 ++ wsX00)
def wsX2_cheap_r1 : List Cond := [Cond.fieldLink RX2 22 "BirthStreet" "houses" "I", Cond.methodLink RX2 148 yX2_cheapestSet, Cond.instanceMethod yX2_cheapestSet, Cond.selects RX2 yX2_cheapestSet yX2_cheapestSet, Cond.initialized RX2, Cond.code yX2_cheapestSet cX2_cheapestSet 5 (some .int), Cond.methodLink RX2 151 yJ6_bitCount_0f7a4, Cond.static yJ6_bitCount_0f7a4, Cond.initialized RJ6, Cond.code yJ6_bitCount_0f7a4 cJ6_bitCount_0f7a4 1 (some .int), Cond.constant RJ6 265 (1431655765), Cond.constant RJ6 266 (858993459), Cond.constant RJ6 267 (252645135), Cond.methodLink RX2 258 yX2_mayAllBear, Cond.instanceMethod yX2_mayAllBear, Cond.selects RX2 yX2_mayAllBear yX2_mayAllBear, Cond.code yX2_mayAllBear cX2_mayAllBear 3 (some .boolean), Cond.fieldLink RX2 28 "BirthStreet" "kinds" "LBirthStreet$Row;", Cond.methodLink RX2 264 yX2_isIn, Cond.static yX2_isIn, Cond.code yX2_isIn cX2_isIn 2 (some .boolean), Cond.methodLink RX2 58 yX1_at, Cond.instanceMethod yX1_at, Cond.selects RX1 yX1_at yX1_at]
def wsX2_cheap_r2 : List Cond := [Cond.initialized RX1, Cond.code yX1_at cX1_at 2 (some .int), Cond.fieldLink RX1 7 "BirthStreet$Row" "cells" "[I", Cond.methodLink RX2 96 yX2_isA, Cond.static yX2_isA, Cond.code yX2_isA cX2_isA 2 (some .boolean), Cond.methodLink RX2 261 yX2_numbersBy, Cond.instanceMethod yX2_numbersBy, Cond.selects RX2 yX2_numbersBy yX2_numbersBy, Cond.code yX2_numbersBy cX2_numbersBy 3 (some .int), Cond.fieldLink RX2 45 "BirthStreet" "wouldBe" "LBirthStreet$Row;", Cond.fieldLink RX2 34 "BirthStreet" "now" "LBirthStreet$Moment;", Cond.methodLink RX2 180 yX1_take, Cond.instanceMethod yX1_take, Cond.selects RX1 yX1_take yX1_take, Cond.code yX1_take cX1_take 3 none, Cond.methodLink RX1 13 yX1_at, Cond.methodLink RX2 99 yX2_bear, Cond.instanceMethod yX2_bear, Cond.selects RX2 yX2_bear yX2_bear, Cond.code yX2_bear cX2_bear 3 none, Cond.methodLink RX2 54 yX1_put, Cond.instanceMethod yX1_put, Cond.selects RX1 yX1_put yX1_put]
def wsX2_cheap_r3 : List Cond := [Cond.code yX1_put cX1_put 3 none, Cond.methodLink RX2 109 yX2_lendsACradle, Cond.instanceMethod yX2_lendsACradle, Cond.selects RX2 yX2_lendsACradle yX2_lendsACradle, Cond.code yX2_lendsACradle cX2_lendsACradle 2 (some .boolean), Cond.methodLink RX2 79 yX2_isHouse, Cond.instanceMethod yX2_isHouse, Cond.selects RX2 yX2_isHouse yX2_isHouse, Cond.code yX2_isHouse cX2_isHouse 2 (some .boolean), Cond.methodLink RX2 192 yX2_allNumbers, Cond.instanceMethod yX2_allNumbers, Cond.selects RX2 yX2_allNumbers yX2_allNumbers, Cond.code yX2_allNumbers cX2_allNumbers 4 (some .int), Cond.methodLink RX2 247 yX2_numberAt, Cond.instanceMethod yX2_numberAt, Cond.selects RX2 yX2_numberAt yX2_numberAt, Cond.code yX2_numberAt cX2_numberAt 3 (some .int), Cond.methodLink RX2 156 yX2_numberOf, Cond.static yX2_numberOf, Cond.code yX2_numberOf cX2_numberOf 2 (some .int)]
def wsX2_cheap : List Cond := .code yX2_cheap cX2_cheap 4 (some .int) :: ((wsX2_cheap_r1 ++ (wsX2_cheap_r2 ++ wsX2_cheap_r3)) ++ wsX20 ++ wsX10 ++ wsX00)
def wsX2_when : List Cond := .code yX2_when cX2_when 6 (some .int) :: ([.fieldLink RX2 28 "BirthStreet" "kinds" "LBirthStreet$Row;", .fieldLink RX2 34 "BirthStreet" "now" "LBirthStreet$Moment;", .methodLink RX2 79 yX2_isHouse, .instanceMethod yX2_isHouse, .selects RX2 yX2_isHouse yX2_isHouse, .initialized RX2, .code yX2_isHouse cX2_isHouse 2 (some .boolean), .fieldLink RX2 22 "BirthStreet" "houses" "I", .methodLink RX2 58 yX1_at, .instanceMethod yX1_at, .selects RX1 yX1_at yX1_at, .initialized RX1, .code yX1_at cX1_at 2 (some .int), .fieldLink RX1 7 "BirthStreet$Row" "cells" "[I", .methodLink RX2 156 yX2_numberOf, .static yX2_numberOf, .code yX2_numberOf cX2_numberOf 2 (some .int), .methodLink RX2 159 yX2_ageNextDay, .static yX2_ageNextDay, .code yX2_ageNextDay cX2_ageNextDay 2 (some .int)] ++ wsX20 ++ wsX00 ++ wsX10)
def wsX2_hear : List Cond := .code yX2_hear cX2_hear 3 (some .int) :: ([.fieldLink RX2 34 "BirthStreet" "now" "LBirthStreet$Moment;", .methodLink RX2 79 yX2_isHouse, .instanceMethod yX2_isHouse, .selects RX2 yX2_isHouse yX2_isHouse, .initialized RX2, .code yX2_isHouse cX2_isHouse 2 (some .boolean), .fieldLink RX2 22 "BirthStreet" "houses" "I", .methodLink RX2 54 yX1_put, .instanceMethod yX1_put, .selects RX1 yX1_put yX1_put, .initialized RX1, .code yX1_put cX1_put 3 none, .fieldLink RX1 7 "BirthStreet$Row" "cells" "[I"] ++ wsX20 ++ wsX00 ++ wsX10)
def wsX2_forget : List Cond := .code yX2_forget cX2_forget 2 (some .int) :: ([.fieldLink RX2 34 "BirthStreet" "now" "LBirthStreet$Moment;"] ++ wsX20 ++ wsX00)
def wsX2_canHaveBeen : List Cond := .code yX2_canHaveBeen cX2_canHaveBeen 3 (some .boolean) :: ([.fieldLink RX2 34 "BirthStreet" "now" "LBirthStreet$Moment;", .methodLink RX2 58 yX1_at, .instanceMethod yX1_at, .selects RX1 yX1_at yX1_at, .initialized RX1, .code yX1_at cX1_at 2 (some .int), .fieldLink RX1 7 "BirthStreet$Row" "cells" "[I", .methodLink RX2 129 yX2_numberOn, .instanceMethod yX2_numberOn, .selects RX2 yX2_numberOn yX2_numberOn, .initialized RX2, .code yX2_numberOn cX2_numberOn 4 (some .int), .fieldLink RX2 28 "BirthStreet" "kinds" "LBirthStreet$Row;", .methodLink RX2 118 yX2_cellOf, .static yX2_cellOf, .code yX2_cellOf cX2_cellOf 2 (some .int), .methodLink RX2 156 yX2_numberOf, .static yX2_numberOf, .code yX2_numberOf cX2_numberOf 2 (some .int)] ++ wsX20 ++ wsX00 ++ wsX10)
def wsX2_days : List Cond := .code yX2_days cX2_days 5 (some .int) :: ([.fieldLink RX2 22 "BirthStreet" "houses" "I", .fieldLink RX2 34 "BirthStreet" "now" "LBirthStreet$Moment;", .methodLink RX2 171 yX2_canHaveBeen, .instanceMethod yX2_canHaveBeen, .selects RX2 yX2_canHaveBeen yX2_canHaveBeen, .initialized RX2, .code yX2_canHaveBeen cX2_canHaveBeen 3 (some .boolean), .methodLink RX2 58 yX1_at, .instanceMethod yX1_at, .selects RX1 yX1_at yX1_at, .initialized RX1, .code yX1_at cX1_at 2 (some .int), .fieldLink RX1 7 "BirthStreet$Row" "cells" "[I", .methodLink RX2 129 yX2_numberOn, .instanceMethod yX2_numberOn, .selects RX2 yX2_numberOn yX2_numberOn, .code yX2_numberOn cX2_numberOn 4 (some .int), .fieldLink RX2 28 "BirthStreet" "kinds" "LBirthStreet$Row;", .methodLink RX2 118 yX2_cellOf, .static yX2_cellOf, .code yX2_cellOf cX2_cellOf 2 (some .int), .methodLink RX2 156 yX2_numberOf, .static yX2_numberOf, .code yX2_numberOf cX2_numberOf 2 (some .int)] ++ wsX20 ++ wsX00 ++ wsX10)
def wsX2_markPossibleDays_r1 : List Cond := [Cond.fieldLink RX2 34 "BirthStreet" "now" "LBirthStreet$Moment;", Cond.fieldLink RX2 48 "BirthStreet" "possible" "LBirthStreet$Row;", Cond.methodLink RX2 171 yX2_canHaveBeen, Cond.instanceMethod yX2_canHaveBeen, Cond.selects RX2 yX2_canHaveBeen yX2_canHaveBeen, Cond.initialized RX2, Cond.code yX2_canHaveBeen cX2_canHaveBeen 3 (some .boolean), Cond.methodLink RX2 58 yX1_at, Cond.instanceMethod yX1_at, Cond.selects RX1 yX1_at yX1_at, Cond.initialized RX1, Cond.code yX1_at cX1_at 2 (some .int), Cond.fieldLink RX1 7 "BirthStreet$Row" "cells" "[I", Cond.methodLink RX2 129 yX2_numberOn, Cond.instanceMethod yX2_numberOn, Cond.selects RX2 yX2_numberOn yX2_numberOn, Cond.code yX2_numberOn cX2_numberOn 4 (some .int), Cond.fieldLink RX2 28 "BirthStreet" "kinds" "LBirthStreet$Row;", Cond.methodLink RX2 118 yX2_cellOf, Cond.static yX2_cellOf, Cond.code yX2_cellOf cX2_cellOf 2 (some .int), Cond.methodLink RX2 156 yX2_numberOf, Cond.static yX2_numberOf, Cond.code yX2_numberOf cX2_numberOf 2 (some .int)]
def wsX2_markPossibleDays_r2 : List Cond := [Cond.methodLink RX2 54 yX1_put, Cond.instanceMethod yX1_put, Cond.selects RX1 yX1_put yX1_put, Cond.code yX1_put cX1_put 3 none]
def wsX2_markPossibleDays : List Cond := .code yX2_markPossibleDays cX2_markPossibleDays 4 (some .int) :: ((wsX2_markPossibleDays_r1 ++ wsX2_markPossibleDays_r2) ++ wsX20 ++ wsX00 ++ wsX10)
def wsX2_mostLeftBy_r1 : List Cond := [Cond.fieldLink RX2 51 "BirthStreet" "tally" "LBirthStreet$Row;", Cond.fieldLink RX2 34 "BirthStreet" "now" "LBirthStreet$Moment;", Cond.fieldLink RX2 48 "BirthStreet" "possible" "LBirthStreet$Row;", Cond.methodLink RX2 270 Lib.Math.max.name, Cond.static Lib.Math.max.name, Cond.initialized "java/lang/Math", Cond.code Lib.Math.max.name Lib.Math.max.code 2 (some .int), Cond.methodLink RX2 267 yX1_clear, Cond.instanceMethod yX1_clear, Cond.selects RX1 yX1_clear yX1_clear, Cond.initialized RX1, Cond.code yX1_clear cX1_clear 2 none, Cond.fieldLink RX1 7 "BirthStreet$Row" "cells" "[I", Cond.methodLink RX2 58 yX1_at, Cond.instanceMethod yX1_at, Cond.selects RX1 yX1_at yX1_at, Cond.code yX1_at cX1_at 2 (some .int), Cond.methodLink RX2 129 yX2_numberOn, Cond.instanceMethod yX2_numberOn, Cond.selects RX2 yX2_numberOn yX2_numberOn, Cond.initialized RX2, Cond.code yX2_numberOn cX2_numberOn 4 (some .int), Cond.fieldLink RX2 28 "BirthStreet" "kinds" "LBirthStreet$Row;", Cond.methodLink RX2 118 yX2_cellOf]
def wsX2_mostLeftBy_r2 : List Cond := [Cond.static yX2_cellOf, Cond.code yX2_cellOf cX2_cellOf 2 (some .int), Cond.methodLink RX2 156 yX2_numberOf, Cond.static yX2_numberOf, Cond.code yX2_numberOf cX2_numberOf 2 (some .int), Cond.methodLink RX2 106 yX1_add, Cond.instanceMethod yX1_add, Cond.selects RX1 yX1_add yX1_add, Cond.code yX1_add cX1_add 3 none, Cond.methodLink RX1 13 yX1_at, Cond.methodLink RX1 17 yX1_put, Cond.instanceMethod yX1_put, Cond.selects RX1 yX1_put yX1_put, Cond.code yX1_put cX1_put 3 none]
def wsX2_mostLeftBy : List Cond := .code yX2_mostLeftBy cX2_mostLeftBy 5 (some .int) :: ((wsX2_mostLeftBy_r1 ++ wsX2_mostLeftBy_r2) ++ wsX20 ++ wsX00 ++ wsX10)
def wsX2_ask_r1 : List Cond := [Cond.fieldLink RX2 22 "BirthStreet" "houses" "I", Cond.methodLink RX2 174 yX2_markPossibleDays, Cond.instanceMethod yX2_markPossibleDays, Cond.selects RX2 yX2_markPossibleDays yX2_markPossibleDays, Cond.initialized RX2, Cond.code yX2_markPossibleDays cX2_markPossibleDays 4 (some .int), Cond.fieldLink RX2 34 "BirthStreet" "now" "LBirthStreet$Moment;", Cond.fieldLink RX2 48 "BirthStreet" "possible" "LBirthStreet$Row;", Cond.methodLink RX2 171 yX2_canHaveBeen, Cond.instanceMethod yX2_canHaveBeen, Cond.selects RX2 yX2_canHaveBeen yX2_canHaveBeen, Cond.code yX2_canHaveBeen cX2_canHaveBeen 3 (some .boolean), Cond.methodLink RX2 58 yX1_at, Cond.instanceMethod yX1_at, Cond.selects RX1 yX1_at yX1_at, Cond.initialized RX1, Cond.code yX1_at cX1_at 2 (some .int), Cond.fieldLink RX1 7 "BirthStreet$Row" "cells" "[I", Cond.methodLink RX2 129 yX2_numberOn, Cond.instanceMethod yX2_numberOn, Cond.selects RX2 yX2_numberOn yX2_numberOn, Cond.code yX2_numberOn cX2_numberOn 4 (some .int), Cond.fieldLink RX2 28 "BirthStreet" "kinds" "LBirthStreet$Row;", Cond.methodLink RX2 118 yX2_cellOf]
def wsX2_ask_r2 : List Cond := [Cond.static yX2_cellOf, Cond.code yX2_cellOf cX2_cellOf 2 (some .int), Cond.methodLink RX2 156 yX2_numberOf, Cond.static yX2_numberOf, Cond.code yX2_numberOf cX2_numberOf 2 (some .int), Cond.methodLink RX2 54 yX1_put, Cond.instanceMethod yX1_put, Cond.selects RX1 yX1_put yX1_put, Cond.code yX1_put cX1_put 3 none, Cond.methodLink RX2 177 yX2_mostLeftBy, Cond.instanceMethod yX2_mostLeftBy, Cond.selects RX2 yX2_mostLeftBy yX2_mostLeftBy, Cond.code yX2_mostLeftBy cX2_mostLeftBy 5 (some .int), Cond.fieldLink RX2 51 "BirthStreet" "tally" "LBirthStreet$Row;", Cond.methodLink RX2 270 Lib.Math.max.name, Cond.static Lib.Math.max.name, Cond.initialized "java/lang/Math", Cond.code Lib.Math.max.name Lib.Math.max.code 2 (some .int), Cond.methodLink RX2 267 yX1_clear, Cond.instanceMethod yX1_clear, Cond.selects RX1 yX1_clear yX1_clear, Cond.code yX1_clear cX1_clear 2 none, Cond.methodLink RX2 106 yX1_add, Cond.instanceMethod yX1_add]
def wsX2_ask_r3 : List Cond := [Cond.selects RX1 yX1_add yX1_add, Cond.code yX1_add cX1_add 3 none, Cond.methodLink RX1 13 yX1_at, Cond.methodLink RX1 17 yX1_put]
def wsX2_ask : List Cond := .code yX2_ask cX2_ask 5 (some .int) :: ((wsX2_ask_r1 ++ (wsX2_ask_r2 ++ wsX2_ask_r3)) ++ wsX20 ++ wsX00 ++ wsX10)
def wsX2_nextSeed : List Cond := .code yX2_nextSeed cX2_nextSeed 1 (some .int) :: ([.constantLong RX2 273 (1103515245), .constantLong RX2 275 (12345), .constantLong RX2 277 (2147483648)])
def wsX2_drawnHouse : List Cond := .code yX2_drawnHouse cX2_drawnHouse 2 (some .int) :: ([.fieldLink RX2 22 "BirthStreet" "houses" "I", .constant RX2 279 (65536)] ++ wsX20)
def wsX2_bearIfMayBe_r1 : List Cond := [Cond.fieldLink RX2 28 "BirthStreet" "kinds" "LBirthStreet$Row;", Cond.methodLink RX2 58 yX1_at, Cond.instanceMethod yX1_at, Cond.selects RX1 yX1_at yX1_at, Cond.initialized RX1, Cond.code yX1_at cX1_at 2 (some .int), Cond.fieldLink RX1 7 "BirthStreet$Row" "cells" "[I", Cond.methodLink RX2 96 yX2_isA, Cond.static yX2_isA, Cond.initialized RX2, Cond.code yX2_isA cX2_isA 2 (some .boolean), Cond.methodLink RX2 99 yX2_bear, Cond.instanceMethod yX2_bear, Cond.selects RX2 yX2_bear yX2_bear, Cond.code yX2_bear cX2_bear 3 none, Cond.methodLink RX2 54 yX1_put, Cond.instanceMethod yX1_put, Cond.selects RX1 yX1_put yX1_put, Cond.code yX1_put cX1_put 3 none, Cond.methodLink RX2 109 yX2_lendsACradle, Cond.instanceMethod yX2_lendsACradle, Cond.selects RX2 yX2_lendsACradle yX2_lendsACradle, Cond.code yX2_lendsACradle cX2_lendsACradle 2 (some .boolean), Cond.methodLink RX2 79 yX2_isHouse]
def wsX2_bearIfMayBe_r2 : List Cond := [Cond.instanceMethod yX2_isHouse, Cond.selects RX2 yX2_isHouse yX2_isHouse, Cond.code yX2_isHouse cX2_isHouse 2 (some .boolean), Cond.fieldLink RX2 22 "BirthStreet" "houses" "I"]
def wsX2_bearIfMayBe : List Cond := .code yX2_bearIfMayBe cX2_bearIfMayBe 3 none :: ((wsX2_bearIfMayBe_r1 ++ wsX2_bearIfMayBe_r2) ++ wsX20 ++ wsX10)
def wsX2_years_r1 : List Cond := [Cond.fieldLink RX2 22 "BirthStreet" "houses" "I", Cond.fieldLink RX2 45 "BirthStreet" "wouldBe" "LBirthStreet$Row;", Cond.fieldLink RX2 34 "BirthStreet" "now" "LBirthStreet$Moment;", Cond.methodLink RX2 180 yX1_take, Cond.instanceMethod yX1_take, Cond.selects RX1 yX1_take yX1_take, Cond.initialized RX1, Cond.code yX1_take cX1_take 3 none, Cond.fieldLink RX1 7 "BirthStreet$Row" "cells" "[I", Cond.methodLink RX1 13 yX1_at, Cond.instanceMethod yX1_at, Cond.selects RX1 yX1_at yX1_at, Cond.code yX1_at cX1_at 2 (some .int), Cond.methodLink RX2 183 yX2_nextSeed, Cond.static yX2_nextSeed, Cond.initialized RX2, Cond.code yX2_nextSeed cX2_nextSeed 1 (some .int), Cond.constantLong RX2 273 (1103515245), Cond.constantLong RX2 275 (12345), Cond.constantLong RX2 277 (2147483648), Cond.methodLink RX2 186 yX2_drawnHouse, Cond.instanceMethod yX2_drawnHouse, Cond.selects RX2 yX2_drawnHouse yX2_drawnHouse, Cond.code yX2_drawnHouse cX2_drawnHouse 2 (some .int)]
def wsX2_years_r2 : List Cond := [Cond.constant RX2 279 (65536), Cond.methodLink RX2 189 yX2_bearIfMayBe, Cond.instanceMethod yX2_bearIfMayBe, Cond.selects RX2 yX2_bearIfMayBe yX2_bearIfMayBe, Cond.code yX2_bearIfMayBe cX2_bearIfMayBe 3 none, Cond.fieldLink RX2 28 "BirthStreet" "kinds" "LBirthStreet$Row;", Cond.methodLink RX2 58 yX1_at, Cond.methodLink RX2 96 yX2_isA, Cond.static yX2_isA, Cond.code yX2_isA cX2_isA 2 (some .boolean), Cond.methodLink RX2 99 yX2_bear, Cond.instanceMethod yX2_bear, Cond.selects RX2 yX2_bear yX2_bear, Cond.code yX2_bear cX2_bear 3 none, Cond.methodLink RX2 54 yX1_put, Cond.instanceMethod yX1_put, Cond.selects RX1 yX1_put yX1_put, Cond.code yX1_put cX1_put 3 none, Cond.methodLink RX2 109 yX2_lendsACradle, Cond.instanceMethod yX2_lendsACradle, Cond.selects RX2 yX2_lendsACradle yX2_lendsACradle, Cond.code yX2_lendsACradle cX2_lendsACradle 2 (some .boolean), Cond.methodLink RX2 79 yX2_isHouse, Cond.instanceMethod yX2_isHouse]
def wsX2_years_r3 : List Cond := [Cond.selects RX2 yX2_isHouse yX2_isHouse, Cond.code yX2_isHouse cX2_isHouse 2 (some .boolean), Cond.methodLink RX2 135 yX2_lengthOfWalk, Cond.instanceMethod yX2_lengthOfWalk, Cond.selects RX2 yX2_lengthOfWalk yX2_lengthOfWalk, Cond.code yX2_lengthOfWalk cX2_lengthOfWalk 6 (some .int), Cond.methodLink RX2 253 Lib.Math.abs.name, Cond.static Lib.Math.abs.name, Cond.initialized "java/lang/Math", Cond.code Lib.Math.abs.name Lib.Math.abs.code 1 (some .int), Cond.methodLink RX2 250 yX2_houseOfTurn, Cond.instanceMethod yX2_houseOfTurn, Cond.selects RX2 yX2_houseOfTurn yX2_houseOfTurn, Cond.code yX2_houseOfTurn cX2_houseOfTurn 4 (some .int), Cond.methodLink RX2 92 yX2_turnInWalk, Cond.instanceMethod yX2_turnInWalk, Cond.selects RX2 yX2_turnInWalk yX2_turnInWalk, Cond.code yX2_turnInWalk cX2_turnInWalk 7 (some .int), Cond.methodLink RX2 247 yX2_numberAt, Cond.instanceMethod yX2_numberAt, Cond.selects RX2 yX2_numberAt yX2_numberAt, Cond.code yX2_numberAt cX2_numberAt 3 (some .int), Cond.methodLink RX2 156 yX2_numberOf, Cond.static yX2_numberOf]
def wsX2_years_r4 : List Cond := [Cond.code yX2_numberOf cX2_numberOf 2 (some .int), Cond.methodLink RX2 122 yX2_growOlder, Cond.instanceMethod yX2_growOlder, Cond.selects RX2 yX2_growOlder yX2_growOlder, Cond.code yX2_growOlder cX2_growOlder 3 none, Cond.methodLink RX2 159 yX2_ageNextDay, Cond.static yX2_ageNextDay, Cond.code yX2_ageNextDay cX2_ageNextDay 2 (some .int), Cond.methodLink RX2 192 yX2_allNumbers, Cond.instanceMethod yX2_allNumbers, Cond.selects RX2 yX2_allNumbers yX2_allNumbers, Cond.code yX2_allNumbers cX2_allNumbers 4 (some .int)]
def wsX2_years : List Cond := .code yX2_years cX2_years 7 (some .int) :: ((wsX2_years_r1 ++ (wsX2_years_r2 ++ (wsX2_years_r3 ++ wsX2_years_r4))) ++ wsX20 ++ wsX00 ++ wsX10)
def wsX2_image_r1 : List Cond := [Cond.fieldLink RX2 22 "BirthStreet" "houses" "I", Cond.fieldLink RX2 38 "BirthStreet" "kept" "LBirthStreet$Moment;", Cond.fieldLink RX2 34 "BirthStreet" "now" "LBirthStreet$Moment;", Cond.fieldLink RX2 41 "BirthStreet" "isKept" "Z", Cond.methodLink RX2 195 yX0_take, Cond.instanceMethod yX0_take, Cond.selects RX0 yX0_take yX0_take, Cond.initialized RX0, Cond.code yX0_take cX0_take 2 none, Cond.fieldLink RX0 9 "BirthStreet$Moment" "today" "I", Cond.fieldLink RX0 15 "BirthStreet$Moment" "births" "I", Cond.fieldLink RX0 18 "BirthStreet$Moment" "debts" "I", Cond.fieldLink RX0 21 "BirthStreet$Moment" "heard" "I", Cond.fieldLink RX0 29 "BirthStreet$Moment" "ages" "LBirthStreet$Row;", Cond.fieldLink RX0 33 "BirthStreet$Moment" "pastAges" "LBirthStreet$Row;", Cond.fieldLink RX0 36 "BirthStreet$Moment" "birthsIn" "LBirthStreet$Row;", Cond.fieldLink RX0 39 "BirthStreet$Moment" "debtAmounts" "LBirthStreet$Row;", Cond.fieldLink RX0 42 "BirthStreet$Moment" "debtNumbers" "LBirthStreet$Row;", Cond.fieldLink RX0 45 "BirthStreet$Moment" "heardHouses" "LBirthStreet$Row;", Cond.fieldLink RX0 48 "BirthStreet$Moment" "heardNumbers" "LBirthStreet$Row;", Cond.methodLink RX0 54 yX1_take, Cond.instanceMethod yX1_take, Cond.selects RX1 yX1_take yX1_take, Cond.initialized RX1]
def wsX2_image_r2 : List Cond := [Cond.code yX1_take cX1_take 3 none, Cond.fieldLink RX1 7 "BirthStreet$Row" "cells" "[I", Cond.methodLink RX1 13 yX1_at, Cond.instanceMethod yX1_at, Cond.selects RX1 yX1_at yX1_at, Cond.code yX1_at cX1_at 2 (some .int)]
def wsX2_image : List Cond := .code yX2_image cX2_image 1 (some .int) :: ((wsX2_image_r1 ++ wsX2_image_r2) ++ wsX20 ++ wsX00 ++ wsX10)
def wsX2_restore_r1 : List Cond := [Cond.fieldLink RX2 41 "BirthStreet" "isKept" "Z", Cond.fieldLink RX2 34 "BirthStreet" "now" "LBirthStreet$Moment;", Cond.fieldLink RX2 38 "BirthStreet" "kept" "LBirthStreet$Moment;", Cond.methodLink RX2 195 yX0_take, Cond.instanceMethod yX0_take, Cond.selects RX0 yX0_take yX0_take, Cond.initialized RX0, Cond.code yX0_take cX0_take 2 none, Cond.fieldLink RX0 9 "BirthStreet$Moment" "today" "I", Cond.fieldLink RX0 15 "BirthStreet$Moment" "births" "I", Cond.fieldLink RX0 18 "BirthStreet$Moment" "debts" "I", Cond.fieldLink RX0 21 "BirthStreet$Moment" "heard" "I", Cond.fieldLink RX0 29 "BirthStreet$Moment" "ages" "LBirthStreet$Row;", Cond.fieldLink RX0 33 "BirthStreet$Moment" "pastAges" "LBirthStreet$Row;", Cond.fieldLink RX0 36 "BirthStreet$Moment" "birthsIn" "LBirthStreet$Row;", Cond.fieldLink RX0 39 "BirthStreet$Moment" "debtAmounts" "LBirthStreet$Row;", Cond.fieldLink RX0 42 "BirthStreet$Moment" "debtNumbers" "LBirthStreet$Row;", Cond.fieldLink RX0 45 "BirthStreet$Moment" "heardHouses" "LBirthStreet$Row;", Cond.fieldLink RX0 48 "BirthStreet$Moment" "heardNumbers" "LBirthStreet$Row;", Cond.methodLink RX0 54 yX1_take, Cond.instanceMethod yX1_take, Cond.selects RX1 yX1_take yX1_take, Cond.initialized RX1, Cond.code yX1_take cX1_take 3 none]
def wsX2_restore_r2 : List Cond := [Cond.fieldLink RX1 7 "BirthStreet$Row" "cells" "[I", Cond.methodLink RX1 13 yX1_at, Cond.instanceMethod yX1_at, Cond.selects RX1 yX1_at yX1_at, Cond.code yX1_at cX1_at 2 (some .int)]
def wsX2_restore : List Cond := .code yX2_restore cX2_restore 1 (some .int) :: ((wsX2_restore_r1 ++ wsX2_restore_r2) ++ wsX20 ++ wsX00 ++ wsX10)
def wsX2_unlikeNumbers_r1 : List Cond := [Cond.fieldLink RX2 22 "BirthStreet" "houses" "I", Cond.fieldLink RX2 34 "BirthStreet" "now" "LBirthStreet$Moment;", Cond.methodLink RX2 83 yX2_numberNow, Cond.instanceMethod yX2_numberNow, Cond.selects RX2 yX2_numberNow yX2_numberNow, Cond.initialized RX2, Cond.code yX2_numberNow cX2_numberNow 2 (some .int), Cond.methodLink RX2 247 yX2_numberAt, Cond.instanceMethod yX2_numberAt, Cond.selects RX2 yX2_numberAt yX2_numberAt, Cond.code yX2_numberAt cX2_numberAt 3 (some .int), Cond.fieldLink RX2 28 "BirthStreet" "kinds" "LBirthStreet$Row;", Cond.methodLink RX2 58 yX1_at, Cond.instanceMethod yX1_at, Cond.selects RX1 yX1_at yX1_at, Cond.initialized RX1, Cond.code yX1_at cX1_at 2 (some .int), Cond.fieldLink RX1 7 "BirthStreet$Row" "cells" "[I", Cond.methodLink RX2 156 yX2_numberOf, Cond.static yX2_numberOf, Cond.code yX2_numberOf cX2_numberOf 2 (some .int), Cond.methodLink RX2 132 yX2_houseWith, Cond.instanceMethod yX2_houseWith, Cond.selects RX2 yX2_houseWith yX2_houseWith]
def wsX2_unlikeNumbers_r2 : List Cond := [Cond.code yX2_houseWith cX2_houseWith 4 (some .int), Cond.methodLink RX2 129 yX2_numberOn, Cond.instanceMethod yX2_numberOn, Cond.selects RX2 yX2_numberOn yX2_numberOn, Cond.code yX2_numberOn cX2_numberOn 4 (some .int), Cond.methodLink RX2 118 yX2_cellOf, Cond.static yX2_cellOf, Cond.code yX2_cellOf cX2_cellOf 2 (some .int)]
def wsX2_unlikeNumbers : List Cond := .code yX2_unlikeNumbers cX2_unlikeNumbers 3 (some .int) :: ((wsX2_unlikeNumbers_r1 ++ wsX2_unlikeNumbers_r2) ++ wsX20 ++ wsX00 ++ wsX10)
def wsX2_owedByAll_r1 : List Cond := [Cond.fieldLink RX2 22 "BirthStreet" "houses" "I", Cond.methodLink RX2 89 yX2_owedBy, Cond.instanceMethod yX2_owedBy, Cond.selects RX2 yX2_owedBy yX2_owedBy, Cond.initialized RX2, Cond.code yX2_owedBy cX2_owedBy 4 (some .int), Cond.fieldLink RX2 34 "BirthStreet" "now" "LBirthStreet$Moment;", Cond.methodLink RX2 58 yX1_at, Cond.instanceMethod yX1_at, Cond.selects RX1 yX1_at yX1_at, Cond.initialized RX1, Cond.code yX1_at cX1_at 2 (some .int), Cond.fieldLink RX1 7 "BirthStreet$Row" "cells" "[I", Cond.methodLink RX2 132 yX2_houseWith, Cond.instanceMethod yX2_houseWith, Cond.selects RX2 yX2_houseWith yX2_houseWith, Cond.code yX2_houseWith cX2_houseWith 4 (some .int), Cond.methodLink RX2 129 yX2_numberOn, Cond.instanceMethod yX2_numberOn, Cond.selects RX2 yX2_numberOn yX2_numberOn, Cond.code yX2_numberOn cX2_numberOn 4 (some .int), Cond.fieldLink RX2 28 "BirthStreet" "kinds" "LBirthStreet$Row;", Cond.methodLink RX2 118 yX2_cellOf, Cond.static yX2_cellOf]
def wsX2_owedByAll_r2 : List Cond := [Cond.code yX2_cellOf cX2_cellOf 2 (some .int), Cond.methodLink RX2 156 yX2_numberOf, Cond.static yX2_numberOf, Cond.code yX2_numberOf cX2_numberOf 2 (some .int)]
def wsX2_owedByAll : List Cond := .code yX2_owedByAll cX2_owedByAll 3 (some .int) :: ((wsX2_owedByAll_r1 ++ wsX2_owedByAll_r2) ++ wsX20 ++ wsX00 ++ wsX10)
def wsX2_count_r1 : List Cond := [Cond.fieldLink RX2 22 "BirthStreet" "houses" "I", Cond.fieldLink RX2 34 "BirthStreet" "now" "LBirthStreet$Moment;", Cond.fieldLink RX2 18 "BirthStreet" "letters" "I", Cond.fieldLink RX2 25 "BirthStreet" "streetsRead" "I", Cond.methodLink RX2 192 yX2_allNumbers, Cond.instanceMethod yX2_allNumbers, Cond.selects RX2 yX2_allNumbers yX2_allNumbers, Cond.initialized RX2, Cond.code yX2_allNumbers cX2_allNumbers 4 (some .int), Cond.methodLink RX2 247 yX2_numberAt, Cond.instanceMethod yX2_numberAt, Cond.selects RX2 yX2_numberAt yX2_numberAt, Cond.code yX2_numberAt cX2_numberAt 3 (some .int), Cond.fieldLink RX2 28 "BirthStreet" "kinds" "LBirthStreet$Row;", Cond.methodLink RX2 58 yX1_at, Cond.instanceMethod yX1_at, Cond.selects RX1 yX1_at yX1_at, Cond.initialized RX1, Cond.code yX1_at cX1_at 2 (some .int), Cond.fieldLink RX1 7 "BirthStreet$Row" "cells" "[I", Cond.methodLink RX2 156 yX2_numberOf, Cond.static yX2_numberOf, Cond.code yX2_numberOf cX2_numberOf 2 (some .int), Cond.methodLink RX2 198 yX2_unlikeNumbers]
def wsX2_count_r2 : List Cond := [Cond.instanceMethod yX2_unlikeNumbers, Cond.selects RX2 yX2_unlikeNumbers yX2_unlikeNumbers, Cond.code yX2_unlikeNumbers cX2_unlikeNumbers 3 (some .int), Cond.methodLink RX2 83 yX2_numberNow, Cond.instanceMethod yX2_numberNow, Cond.selects RX2 yX2_numberNow yX2_numberNow, Cond.code yX2_numberNow cX2_numberNow 2 (some .int), Cond.methodLink RX2 132 yX2_houseWith, Cond.instanceMethod yX2_houseWith, Cond.selects RX2 yX2_houseWith yX2_houseWith, Cond.code yX2_houseWith cX2_houseWith 4 (some .int), Cond.methodLink RX2 129 yX2_numberOn, Cond.instanceMethod yX2_numberOn, Cond.selects RX2 yX2_numberOn yX2_numberOn, Cond.code yX2_numberOn cX2_numberOn 4 (some .int), Cond.methodLink RX2 118 yX2_cellOf, Cond.static yX2_cellOf, Cond.code yX2_cellOf cX2_cellOf 2 (some .int), Cond.methodLink RX2 201 yX2_owedByAll, Cond.instanceMethod yX2_owedByAll, Cond.selects RX2 yX2_owedByAll yX2_owedByAll, Cond.code yX2_owedByAll cX2_owedByAll 3 (some .int), Cond.methodLink RX2 89 yX2_owedBy, Cond.instanceMethod yX2_owedBy]
def wsX2_count_r3 : List Cond := [Cond.selects RX2 yX2_owedBy yX2_owedBy, Cond.code yX2_owedBy cX2_owedBy 4 (some .int)]
def wsX2_count : List Cond := .code yX2_count cX2_count 2 (some .int) :: ((wsX2_count_r1 ++ (wsX2_count_r2 ++ wsX2_count_r3)) ++ wsX20 ++ wsX00 ++ wsX10)
def wsX2_with : List Cond := .code yX2_with cX2_with 3 (some .long) :: ([.constantLong RX2 231 (31)])
def wsX2_withHouse_r1 : List Cond := [Cond.fieldLink RX2 34 "BirthStreet" "now" "LBirthStreet$Moment;", Cond.methodLink RX2 228 yX2_about, Cond.instanceMethod yX2_about, Cond.selects RX2 yX2_about yX2_about, Cond.initialized RX2, Cond.code yX2_about cX2_about 3 (some .int), Cond.fieldLink RX2 28 "BirthStreet" "kinds" "LBirthStreet$Row;", Cond.methodLink RX2 79 yX2_isHouse, Cond.instanceMethod yX2_isHouse, Cond.selects RX2 yX2_isHouse yX2_isHouse, Cond.code yX2_isHouse cX2_isHouse 2 (some .boolean), Cond.fieldLink RX2 22 "BirthStreet" "houses" "I", Cond.methodLink RX2 58 yX1_at, Cond.instanceMethod yX1_at, Cond.selects RX1 yX1_at yX1_at, Cond.initialized RX1, Cond.code yX1_at cX1_at 2 (some .int), Cond.fieldLink RX1 7 "BirthStreet$Row" "cells" "[I", Cond.methodLink RX2 83 yX2_numberNow, Cond.instanceMethod yX2_numberNow, Cond.selects RX2 yX2_numberNow yX2_numberNow, Cond.code yX2_numberNow cX2_numberNow 2 (some .int), Cond.methodLink RX2 247 yX2_numberAt, Cond.instanceMethod yX2_numberAt]
def wsX2_withHouse_r2 : List Cond := [Cond.selects RX2 yX2_numberAt yX2_numberAt, Cond.code yX2_numberAt cX2_numberAt 3 (some .int), Cond.methodLink RX2 156 yX2_numberOf, Cond.static yX2_numberOf, Cond.code yX2_numberOf cX2_numberOf 2 (some .int), Cond.methodLink RX2 89 yX2_owedBy, Cond.instanceMethod yX2_owedBy, Cond.selects RX2 yX2_owedBy yX2_owedBy, Cond.code yX2_owedBy cX2_owedBy 4 (some .int), Cond.methodLink RX2 132 yX2_houseWith, Cond.instanceMethod yX2_houseWith, Cond.selects RX2 yX2_houseWith yX2_houseWith, Cond.code yX2_houseWith cX2_houseWith 4 (some .int), Cond.methodLink RX2 129 yX2_numberOn, Cond.instanceMethod yX2_numberOn, Cond.selects RX2 yX2_numberOn yX2_numberOn, Cond.code yX2_numberOn cX2_numberOn 4 (some .int), Cond.methodLink RX2 118 yX2_cellOf, Cond.static yX2_cellOf, Cond.code yX2_cellOf cX2_cellOf 2 (some .int), Cond.methodLink RX2 92 yX2_turnInWalk, Cond.instanceMethod yX2_turnInWalk, Cond.selects RX2 yX2_turnInWalk yX2_turnInWalk, Cond.code yX2_turnInWalk cX2_turnInWalk 7 (some .int)]
def wsX2_withHouse_r3 : List Cond := [Cond.methodLink RX2 213 yX2_with, Cond.static yX2_with, Cond.code yX2_with cX2_with 3 (some .long), Cond.constantLong RX2 231 (31)]
def wsX2_withHouse : List Cond := .code yX2_withHouse cX2_withHouse 7 (some .long) :: ((wsX2_withHouse_r1 ++ (wsX2_withHouse_r2 ++ wsX2_withHouse_r3)) ++ wsX20 ++ wsX00 ++ wsX10)
def wsX2_digest_r1 : List Cond := [Cond.constantLong RX2 204 (1033), Cond.fieldLink RX2 22 "BirthStreet" "houses" "I", Cond.fieldLink RX2 18 "BirthStreet" "letters" "I", Cond.fieldLink RX2 14 "BirthStreet" "page" "LBirthStreet$Row;", Cond.methodLink RX2 206 yX2_withHouse, Cond.instanceMethod yX2_withHouse, Cond.selects RX2 yX2_withHouse yX2_withHouse, Cond.initialized RX2, Cond.code yX2_withHouse cX2_withHouse 7 (some .long), Cond.fieldLink RX2 34 "BirthStreet" "now" "LBirthStreet$Moment;", Cond.methodLink RX2 228 yX2_about, Cond.instanceMethod yX2_about, Cond.selects RX2 yX2_about yX2_about, Cond.code yX2_about cX2_about 3 (some .int), Cond.fieldLink RX2 28 "BirthStreet" "kinds" "LBirthStreet$Row;", Cond.methodLink RX2 79 yX2_isHouse, Cond.instanceMethod yX2_isHouse, Cond.selects RX2 yX2_isHouse yX2_isHouse, Cond.code yX2_isHouse cX2_isHouse 2 (some .boolean), Cond.methodLink RX2 58 yX1_at, Cond.instanceMethod yX1_at, Cond.selects RX1 yX1_at yX1_at, Cond.initialized RX1, Cond.code yX1_at cX1_at 2 (some .int)]
def wsX2_digest_r2 : List Cond := [Cond.fieldLink RX1 7 "BirthStreet$Row" "cells" "[I", Cond.methodLink RX2 83 yX2_numberNow, Cond.instanceMethod yX2_numberNow, Cond.selects RX2 yX2_numberNow yX2_numberNow, Cond.code yX2_numberNow cX2_numberNow 2 (some .int), Cond.methodLink RX2 247 yX2_numberAt, Cond.instanceMethod yX2_numberAt, Cond.selects RX2 yX2_numberAt yX2_numberAt, Cond.code yX2_numberAt cX2_numberAt 3 (some .int), Cond.methodLink RX2 156 yX2_numberOf, Cond.static yX2_numberOf, Cond.code yX2_numberOf cX2_numberOf 2 (some .int), Cond.methodLink RX2 89 yX2_owedBy, Cond.instanceMethod yX2_owedBy, Cond.selects RX2 yX2_owedBy yX2_owedBy, Cond.code yX2_owedBy cX2_owedBy 4 (some .int), Cond.methodLink RX2 132 yX2_houseWith, Cond.instanceMethod yX2_houseWith, Cond.selects RX2 yX2_houseWith yX2_houseWith, Cond.code yX2_houseWith cX2_houseWith 4 (some .int), Cond.methodLink RX2 129 yX2_numberOn, Cond.instanceMethod yX2_numberOn, Cond.selects RX2 yX2_numberOn yX2_numberOn, Cond.code yX2_numberOn cX2_numberOn 4 (some .int)]
def wsX2_digest_r3 : List Cond := [Cond.methodLink RX2 118 yX2_cellOf, Cond.static yX2_cellOf, Cond.code yX2_cellOf cX2_cellOf 2 (some .int), Cond.methodLink RX2 92 yX2_turnInWalk, Cond.instanceMethod yX2_turnInWalk, Cond.selects RX2 yX2_turnInWalk yX2_turnInWalk, Cond.code yX2_turnInWalk cX2_turnInWalk 7 (some .int), Cond.methodLink RX2 213 yX2_with, Cond.static yX2_with, Cond.code yX2_with cX2_with 3 (some .long), Cond.constantLong RX2 231 (31), Cond.methodLink RX2 210 yX2_walk, Cond.instanceMethod yX2_walk, Cond.selects RX2 yX2_walk yX2_walk, Cond.code yX2_walk cX2_walk 1 (some .int), Cond.methodLink RX2 135 yX2_lengthOfWalk, Cond.instanceMethod yX2_lengthOfWalk, Cond.selects RX2 yX2_lengthOfWalk yX2_lengthOfWalk, Cond.code yX2_lengthOfWalk cX2_lengthOfWalk 6 (some .int), Cond.methodLink RX2 253 Lib.Math.abs.name, Cond.static Lib.Math.abs.name, Cond.initialized "java/lang/Math", Cond.code Lib.Math.abs.name Lib.Math.abs.code 1 (some .int), Cond.methodLink RX2 250 yX2_houseOfTurn]
def wsX2_digest_r4 : List Cond := [Cond.instanceMethod yX2_houseOfTurn, Cond.selects RX2 yX2_houseOfTurn yX2_houseOfTurn, Cond.code yX2_houseOfTurn cX2_houseOfTurn 4 (some .int), Cond.methodLink RX2 216 yX2_cheap, Cond.instanceMethod yX2_cheap, Cond.selects RX2 yX2_cheap yX2_cheap, Cond.code yX2_cheap cX2_cheap 4 (some .int), Cond.methodLink RX2 148 yX2_cheapestSet, Cond.instanceMethod yX2_cheapestSet, Cond.selects RX2 yX2_cheapestSet yX2_cheapestSet, Cond.code yX2_cheapestSet cX2_cheapestSet 5 (some .int), Cond.methodLink RX2 151 yJ6_bitCount_0f7a4, Cond.static yJ6_bitCount_0f7a4, Cond.initialized RJ6, Cond.code yJ6_bitCount_0f7a4 cJ6_bitCount_0f7a4 1 (some .int), Cond.constant RJ6 265 (1431655765), Cond.constant RJ6 266 (858993459), Cond.constant RJ6 267 (252645135), Cond.methodLink RX2 258 yX2_mayAllBear, Cond.instanceMethod yX2_mayAllBear, Cond.selects RX2 yX2_mayAllBear yX2_mayAllBear, Cond.code yX2_mayAllBear cX2_mayAllBear 3 (some .boolean), Cond.methodLink RX2 264 yX2_isIn, Cond.static yX2_isIn]
def wsX2_digest_r5 : List Cond := [Cond.code yX2_isIn cX2_isIn 2 (some .boolean), Cond.methodLink RX2 96 yX2_isA, Cond.static yX2_isA, Cond.code yX2_isA cX2_isA 2 (some .boolean), Cond.methodLink RX2 261 yX2_numbersBy, Cond.instanceMethod yX2_numbersBy, Cond.selects RX2 yX2_numbersBy yX2_numbersBy, Cond.code yX2_numbersBy cX2_numbersBy 3 (some .int), Cond.fieldLink RX2 45 "BirthStreet" "wouldBe" "LBirthStreet$Row;", Cond.methodLink RX2 180 yX1_take, Cond.instanceMethod yX1_take, Cond.selects RX1 yX1_take yX1_take, Cond.code yX1_take cX1_take 3 none, Cond.methodLink RX1 13 yX1_at, Cond.methodLink RX2 99 yX2_bear, Cond.instanceMethod yX2_bear, Cond.selects RX2 yX2_bear yX2_bear, Cond.code yX2_bear cX2_bear 3 none, Cond.methodLink RX2 54 yX1_put, Cond.instanceMethod yX1_put, Cond.selects RX1 yX1_put yX1_put, Cond.code yX1_put cX1_put 3 none, Cond.methodLink RX2 109 yX2_lendsACradle, Cond.instanceMethod yX2_lendsACradle]
def wsX2_digest_r6 : List Cond := [Cond.selects RX2 yX2_lendsACradle yX2_lendsACradle, Cond.code yX2_lendsACradle cX2_lendsACradle 2 (some .boolean), Cond.methodLink RX2 192 yX2_allNumbers, Cond.instanceMethod yX2_allNumbers, Cond.selects RX2 yX2_allNumbers yX2_allNumbers, Cond.code yX2_allNumbers cX2_allNumbers 4 (some .int), Cond.methodLink RX2 219 yX2_days, Cond.instanceMethod yX2_days, Cond.selects RX2 yX2_days yX2_days, Cond.code yX2_days cX2_days 5 (some .int), Cond.methodLink RX2 171 yX2_canHaveBeen, Cond.instanceMethod yX2_canHaveBeen, Cond.selects RX2 yX2_canHaveBeen yX2_canHaveBeen, Cond.code yX2_canHaveBeen cX2_canHaveBeen 3 (some .boolean), Cond.methodLink RX2 222 yX2_ask, Cond.instanceMethod yX2_ask, Cond.selects RX2 yX2_ask yX2_ask, Cond.code yX2_ask cX2_ask 5 (some .int), Cond.methodLink RX2 174 yX2_markPossibleDays, Cond.instanceMethod yX2_markPossibleDays, Cond.selects RX2 yX2_markPossibleDays yX2_markPossibleDays, Cond.code yX2_markPossibleDays cX2_markPossibleDays 4 (some .int), Cond.fieldLink RX2 48 "BirthStreet" "possible" "LBirthStreet$Row;", Cond.methodLink RX2 177 yX2_mostLeftBy]
def wsX2_digest_r7 : List Cond := [Cond.instanceMethod yX2_mostLeftBy, Cond.selects RX2 yX2_mostLeftBy yX2_mostLeftBy, Cond.code yX2_mostLeftBy cX2_mostLeftBy 5 (some .int), Cond.fieldLink RX2 51 "BirthStreet" "tally" "LBirthStreet$Row;", Cond.methodLink RX2 270 Lib.Math.max.name, Cond.static Lib.Math.max.name, Cond.code Lib.Math.max.name Lib.Math.max.code 2 (some .int), Cond.methodLink RX2 267 yX1_clear, Cond.instanceMethod yX1_clear, Cond.selects RX1 yX1_clear yX1_clear, Cond.code yX1_clear cX1_clear 2 none, Cond.methodLink RX2 106 yX1_add, Cond.instanceMethod yX1_add, Cond.selects RX1 yX1_add yX1_add, Cond.code yX1_add cX1_add 3 none, Cond.methodLink RX1 17 yX1_put, Cond.methodLink RX2 225 yX2_count, Cond.instanceMethod yX2_count, Cond.selects RX2 yX2_count yX2_count, Cond.code yX2_count cX2_count 2 (some .int), Cond.fieldLink RX2 25 "BirthStreet" "streetsRead" "I", Cond.methodLink RX2 198 yX2_unlikeNumbers, Cond.instanceMethod yX2_unlikeNumbers, Cond.selects RX2 yX2_unlikeNumbers yX2_unlikeNumbers]
def wsX2_digest_r8 : List Cond := [Cond.code yX2_unlikeNumbers cX2_unlikeNumbers 3 (some .int), Cond.methodLink RX2 201 yX2_owedByAll, Cond.instanceMethod yX2_owedByAll, Cond.selects RX2 yX2_owedByAll yX2_owedByAll, Cond.code yX2_owedByAll cX2_owedByAll 3 (some .int)]
def wsX2_digest : List Cond := .code yX2_digest cX2_digest 4 (some .long) :: ((wsX2_digest_r1 ++ (wsX2_digest_r2 ++ (wsX2_digest_r3 ++ (wsX2_digest_r4 ++ (wsX2_digest_r5 ++ (wsX2_digest_r6 ++ (wsX2_digest_r7 ++ wsX2_digest_r8))))))) ++ wsX20 ++ wsX00 ++ wsX10)
def wsX3_init : List Cond := .code yX3_init cX3_init 1 none :: ([.methodLink RX3 1 objectInit, .instanceMethod objectInit, .code objectInit ⟨#[0xb1]⟩ 1 none, .arrayClass .int, .fieldLink RX3 7 "BirthStreetModel" "kindOf" "[I", .fieldLink RX3 13 "BirthStreetModel" "ageOf" "[I", .fieldLink RX3 16 "BirthStreetModel" "birthsOf" "[I", .fieldLink RX3 19 "BirthStreetModel" "ageThen" "[I", .fieldLink RX3 22 "BirthStreetModel" "debtMuch" "[I", .fieldLink RX3 25 "BirthStreetModel" "debtNumber" "[I", .fieldLink RX3 28 "BirthStreetModel" "heardHouse" "[I", .fieldLink RX3 31 "BirthStreetModel" "heardNumber" "[I", .arrayClass .byte, .fieldLink RX3 34 "BirthStreetModel" "page" "[B", .fieldLink RX3 38 "BirthStreetModel" "savedAge" "[I", .fieldLink RX3 41 "BirthStreetModel" "keptAge" "[I", .fieldLink RX3 44 "BirthStreetModel" "keptBirthsOf" "[I", .fieldLink RX3 47 "BirthStreetModel" "keptThen" "[I", .fieldLink RX3 50 "BirthStreetModel" "keptMuch" "[I", .fieldLink RX3 53 "BirthStreetModel" "keptNumber" "[I", .fieldLink RX3 56 "BirthStreetModel" "keptHouse" "[I", .fieldLink RX3 59 "BirthStreetModel" "keptHeardNumber" "[I"] ++ wsX30)
def wsX3_within : List Cond := .code yX3_within cX3_within 3 (some .boolean) :: ([])
def wsX3_isIn : List Cond := .code yX3_isIn cX3_isIn 2 (some .boolean) :: ([])
def wsX3_size : List Cond := .code yX3_size cX3_size 3 (some .int) :: ([])
def wsX3_letter : List Cond := .code yX3_letter cX3_letter 2 (some .int) :: ([.fieldLink RX3 66 "BirthStreetModel" "pageLength" "I", .fieldLink RX3 34 "BirthStreetModel" "page" "[B", .methodLink RX3 62 yX3_within, .static yX3_within, .initialized RX3, .code yX3_within cX3_within 3 (some .boolean)] ++ wsX30)
def wsX3_blank : List Cond := .code yX3_blank cX3_blank 2 (some .int) :: ([.fieldLink RX3 66 "BirthStreetModel" "pageLength" "I"] ++ wsX30)
def wsX3_kindBy : List Cond := .code yX3_kindBy cX3_kindBy 1 (some .int) :: ([])
def wsX3_isGood : List Cond := .code yX3_isGood cX3_isGood 3 (some .boolean) :: ([.fieldLink RX3 34 "BirthStreetModel" "page" "[B", .methodLink RX3 70 yX3_kindBy, .static yX3_kindBy, .initialized RX3, .code yX3_kindBy cX3_kindBy 1 (some .int), .methodLink RX3 62 yX3_within, .static yX3_within, .code yX3_within cX3_within 3 (some .boolean)] ++ wsX30)
def wsX3_faultNow : List Cond := .code yX3_faultNow cX3_faultNow 2 (some .int) :: ([.fieldLink RX3 66 "BirthStreetModel" "pageLength" "I", .methodLink RX3 74 yX3_isGood, .instanceMethod yX3_isGood, .selects RX3 yX3_isGood yX3_isGood, .initialized RX3, .code yX3_isGood cX3_isGood 3 (some .boolean), .fieldLink RX3 34 "BirthStreetModel" "page" "[B", .methodLink RX3 70 yX3_kindBy, .static yX3_kindBy, .code yX3_kindBy cX3_kindBy 1 (some .int), .methodLink RX3 62 yX3_within, .static yX3_within, .code yX3_within cX3_within 3 (some .boolean)] ++ wsX30)
def wsX3_fault : List Cond := .code yX3_fault cX3_fault 1 (some .int) :: ([.methodLink RX3 78 yX3_faultNow, .instanceMethod yX3_faultNow, .selects RX3 yX3_faultNow yX3_faultNow, .initialized RX3, .code yX3_faultNow cX3_faultNow 2 (some .int), .fieldLink RX3 66 "BirthStreetModel" "pageLength" "I", .methodLink RX3 74 yX3_isGood, .instanceMethod yX3_isGood, .selects RX3 yX3_isGood yX3_isGood, .code yX3_isGood cX3_isGood 3 (some .boolean), .fieldLink RX3 34 "BirthStreetModel" "page" "[B", .methodLink RX3 70 yX3_kindBy, .static yX3_kindBy, .code yX3_kindBy cX3_kindBy 1 (some .int), .methodLink RX3 62 yX3_within, .static yX3_within, .code yX3_within cX3_within 3 (some .boolean)] ++ wsX30)
def wsX3_street_r1 : List Cond := [Cond.fieldLink RX3 66 "BirthStreetModel" "pageLength" "I", Cond.fieldLink RX3 82 "BirthStreetModel" "houses" "I", Cond.fieldLink RX3 7 "BirthStreetModel" "kindOf" "[I", Cond.fieldLink RX3 34 "BirthStreetModel" "page" "[B", Cond.fieldLink RX3 13 "BirthStreetModel" "ageOf" "[I", Cond.fieldLink RX3 16 "BirthStreetModel" "birthsOf" "[I", Cond.fieldLink RX3 85 "BirthStreetModel" "streets" "I", Cond.fieldLink RX3 88 "BirthStreetModel" "today" "I", Cond.fieldLink RX3 91 "BirthStreetModel" "births" "I", Cond.fieldLink RX3 94 "BirthStreetModel" "debts" "I", Cond.fieldLink RX3 97 "BirthStreetModel" "heard" "I", Cond.methodLink RX3 78 yX3_faultNow, Cond.instanceMethod yX3_faultNow, Cond.selects RX3 yX3_faultNow yX3_faultNow, Cond.initialized RX3, Cond.code yX3_faultNow cX3_faultNow 2 (some .int), Cond.methodLink RX3 74 yX3_isGood, Cond.instanceMethod yX3_isGood, Cond.selects RX3 yX3_isGood yX3_isGood, Cond.code yX3_isGood cX3_isGood 3 (some .boolean), Cond.methodLink RX3 70 yX3_kindBy, Cond.static yX3_kindBy, Cond.code yX3_kindBy cX3_kindBy 1 (some .int), Cond.methodLink RX3 62 yX3_within]
def wsX3_street_r2 : List Cond := [Cond.static yX3_within, Cond.code yX3_within cX3_within 3 (some .boolean)]
def wsX3_street : List Cond := .code yX3_street cX3_street 2 (some .int) :: ((wsX3_street_r1 ++ wsX3_street_r2) ++ wsX30)
def wsX3_isHouse : List Cond := .code yX3_isHouse cX3_isHouse 2 (some .boolean) :: ([.fieldLink RX3 82 "BirthStreetModel" "houses" "I", .methodLink RX3 62 yX3_within, .static yX3_within, .initialized RX3, .code yX3_within cX3_within 3 (some .boolean)] ++ wsX30)
def wsX3_isDay : List Cond := .code yX3_isDay cX3_isDay 2 (some .boolean) :: ([.fieldLink RX3 82 "BirthStreetModel" "houses" "I", .fieldLink RX3 88 "BirthStreetModel" "today" "I", .methodLink RX3 62 yX3_within, .static yX3_within, .initialized RX3, .code yX3_within cX3_within 3 (some .boolean)] ++ wsX30)
def wsX3_numberBy : List Cond := .code yX3_numberBy cX3_numberBy 3 (some .int) :: ([.fieldLink RX3 7 "BirthStreetModel" "kindOf" "[I"] ++ wsX30)
def wsX3_number : List Cond := .code yX3_number cX3_number 2 (some .int) :: ([.fieldLink RX3 13 "BirthStreetModel" "ageOf" "[I", .methodLink RX3 100 yX3_numberBy, .instanceMethod yX3_numberBy, .selects RX3 yX3_numberBy yX3_numberBy, .initialized RX3, .code yX3_numberBy cX3_numberBy 3 (some .int), .fieldLink RX3 7 "BirthStreetModel" "kindOf" "[I"] ++ wsX30)
def wsX3_numberOn : List Cond := .code yX3_numberOn cX3_numberOn 3 (some .int) :: ([.fieldLink RX3 88 "BirthStreetModel" "today" "I", .fieldLink RX3 13 "BirthStreetModel" "ageOf" "[I", .fieldLink RX3 19 "BirthStreetModel" "ageThen" "[I", .methodLink RX3 100 yX3_numberBy, .instanceMethod yX3_numberBy, .selects RX3 yX3_numberBy yX3_numberBy, .initialized RX3, .code yX3_numberBy cX3_numberBy 3 (some .int), .fieldLink RX3 7 "BirthStreetModel" "kindOf" "[I"] ++ wsX30)
def wsX3_mayBirth : List Cond := .code yX3_mayBirth cX3_mayBirth 2 (some .boolean) :: ([.fieldLink RX3 7 "BirthStreetModel" "kindOf" "[I"] ++ wsX30)
def wsX3_lends : List Cond := .code yX3_lends cX3_lends 2 (some .boolean) :: ([.fieldLink RX3 82 "BirthStreetModel" "houses" "I", .fieldLink RX3 7 "BirthStreetModel" "kindOf" "[I"] ++ wsX30)
def wsX3_ageNone : List Cond := .code yX3_ageNone cX3_ageNone 2 none :: ([.fieldLink RX3 13 "BirthStreetModel" "ageOf" "[I", .methodLink RX3 104 yX3_lends, .instanceMethod yX3_lends, .selects RX3 yX3_lends yX3_lends, .initialized RX3, .code yX3_lends cX3_lends 2 (some .boolean), .fieldLink RX3 82 "BirthStreetModel" "houses" "I", .fieldLink RX3 7 "BirthStreetModel" "kindOf" "[I"] ++ wsX30)
def wsX3_ageMore : List Cond := .code yX3_ageMore cX3_ageMore 2 none :: ([.fieldLink RX3 82 "BirthStreetModel" "houses" "I", .fieldLink RX3 13 "BirthStreetModel" "ageOf" "[I", .fieldLink RX3 7 "BirthStreetModel" "kindOf" "[I"] ++ wsX30)
def wsX3_orderOf : List Cond := .code yX3_orderOf cX3_orderOf 4 (some .int) :: ([.fieldLink RX3 82 "BirthStreetModel" "houses" "I", .methodLink RX3 107 yX3_number, .instanceMethod yX3_number, .selects RX3 yX3_number yX3_number, .initialized RX3, .code yX3_number cX3_number 2 (some .int), .fieldLink RX3 13 "BirthStreetModel" "ageOf" "[I", .methodLink RX3 100 yX3_numberBy, .instanceMethod yX3_numberBy, .selects RX3 yX3_numberBy yX3_numberBy, .code yX3_numberBy cX3_numberBy 3 (some .int), .fieldLink RX3 7 "BirthStreetModel" "kindOf" "[I"] ++ wsX30)
def wsX3_walkNow : List Cond := .code yX3_walkNow cX3_walkNow 5 (some .int) :: ([.fieldLink RX3 82 "BirthStreetModel" "houses" "I", .methodLink RX3 110 yX3_orderOf, .instanceMethod yX3_orderOf, .selects RX3 yX3_orderOf yX3_orderOf, .initialized RX3, .code yX3_orderOf cX3_orderOf 4 (some .int), .methodLink RX3 107 yX3_number, .instanceMethod yX3_number, .selects RX3 yX3_number yX3_number, .code yX3_number cX3_number 2 (some .int), .fieldLink RX3 13 "BirthStreetModel" "ageOf" "[I", .methodLink RX3 100 yX3_numberBy, .instanceMethod yX3_numberBy, .selects RX3 yX3_numberBy yX3_numberBy, .code yX3_numberBy cX3_numberBy 3 (some .int), .fieldLink RX3 7 "BirthStreetModel" "kindOf" "[I"] ++ wsX30)
def wsX3_houseOf : List Cond := .code yX3_houseOf cX3_houseOf 5 (some .int) :: ([.fieldLink RX3 82 "BirthStreetModel" "houses" "I", .methodLink RX3 113 yX3_numberOn, .instanceMethod yX3_numberOn, .selects RX3 yX3_numberOn yX3_numberOn, .initialized RX3, .code yX3_numberOn cX3_numberOn 3 (some .int), .fieldLink RX3 88 "BirthStreetModel" "today" "I", .fieldLink RX3 13 "BirthStreetModel" "ageOf" "[I", .fieldLink RX3 19 "BirthStreetModel" "ageThen" "[I", .methodLink RX3 100 yX3_numberBy, .instanceMethod yX3_numberBy, .selects RX3 yX3_numberBy yX3_numberBy, .code yX3_numberBy cX3_numberBy 3 (some .int), .fieldLink RX3 7 "BirthStreetModel" "kindOf" "[I"] ++ wsX30)
def wsX3_owes : List Cond := .code yX3_owes cX3_owes 4 (some .int) :: ([.fieldLink RX3 94 "BirthStreetModel" "debts" "I", .fieldLink RX3 25 "BirthStreetModel" "debtNumber" "[I", .fieldLink RX3 88 "BirthStreetModel" "today" "I", .fieldLink RX3 22 "BirthStreetModel" "debtMuch" "[I", .methodLink RX3 116 yX3_houseOf, .instanceMethod yX3_houseOf, .selects RX3 yX3_houseOf yX3_houseOf, .initialized RX3, .code yX3_houseOf cX3_houseOf 5 (some .int), .fieldLink RX3 82 "BirthStreetModel" "houses" "I", .methodLink RX3 113 yX3_numberOn, .instanceMethod yX3_numberOn, .selects RX3 yX3_numberOn yX3_numberOn, .code yX3_numberOn cX3_numberOn 3 (some .int), .fieldLink RX3 13 "BirthStreetModel" "ageOf" "[I", .fieldLink RX3 19 "BirthStreetModel" "ageThen" "[I", .methodLink RX3 100 yX3_numberBy, .instanceMethod yX3_numberBy, .selects RX3 yX3_numberBy yX3_numberBy, .code yX3_numberBy cX3_numberBy 3 (some .int), .fieldLink RX3 7 "BirthStreetModel" "kindOf" "[I"] ++ wsX30)
def wsX3_houseNow_r1 : List Cond := [Cond.fieldLink RX3 7 "BirthStreetModel" "kindOf" "[I", Cond.fieldLink RX3 13 "BirthStreetModel" "ageOf" "[I", Cond.fieldLink RX3 16 "BirthStreetModel" "birthsOf" "[I", Cond.methodLink RX3 107 yX3_number, Cond.instanceMethod yX3_number, Cond.selects RX3 yX3_number yX3_number, Cond.initialized RX3, Cond.code yX3_number cX3_number 2 (some .int), Cond.methodLink RX3 100 yX3_numberBy, Cond.instanceMethod yX3_numberBy, Cond.selects RX3 yX3_numberBy yX3_numberBy, Cond.code yX3_numberBy cX3_numberBy 3 (some .int), Cond.methodLink RX3 119 yX3_owes, Cond.instanceMethod yX3_owes, Cond.selects RX3 yX3_owes yX3_owes, Cond.code yX3_owes cX3_owes 4 (some .int), Cond.fieldLink RX3 94 "BirthStreetModel" "debts" "I", Cond.fieldLink RX3 25 "BirthStreetModel" "debtNumber" "[I", Cond.fieldLink RX3 88 "BirthStreetModel" "today" "I", Cond.fieldLink RX3 22 "BirthStreetModel" "debtMuch" "[I", Cond.methodLink RX3 116 yX3_houseOf, Cond.instanceMethod yX3_houseOf, Cond.selects RX3 yX3_houseOf yX3_houseOf, Cond.code yX3_houseOf cX3_houseOf 5 (some .int)]
def wsX3_houseNow_r2 : List Cond := [Cond.fieldLink RX3 82 "BirthStreetModel" "houses" "I", Cond.methodLink RX3 113 yX3_numberOn, Cond.instanceMethod yX3_numberOn, Cond.selects RX3 yX3_numberOn yX3_numberOn, Cond.code yX3_numberOn cX3_numberOn 3 (some .int), Cond.fieldLink RX3 19 "BirthStreetModel" "ageThen" "[I", Cond.methodLink RX3 110 yX3_orderOf, Cond.instanceMethod yX3_orderOf, Cond.selects RX3 yX3_orderOf yX3_orderOf, Cond.code yX3_orderOf cX3_orderOf 4 (some .int)]
def wsX3_houseNow : List Cond := .code yX3_houseNow cX3_houseNow 3 (some .int) :: ((wsX3_houseNow_r1 ++ wsX3_houseNow_r2) ++ wsX30)
def wsX3_about_r1 : List Cond := [Cond.methodLink RX3 122 yX3_isHouse, Cond.instanceMethod yX3_isHouse, Cond.selects RX3 yX3_isHouse yX3_isHouse, Cond.initialized RX3, Cond.code yX3_isHouse cX3_isHouse 2 (some .boolean), Cond.fieldLink RX3 82 "BirthStreetModel" "houses" "I", Cond.methodLink RX3 62 yX3_within, Cond.static yX3_within, Cond.code yX3_within cX3_within 3 (some .boolean), Cond.methodLink RX3 125 yX3_houseNow, Cond.instanceMethod yX3_houseNow, Cond.selects RX3 yX3_houseNow yX3_houseNow, Cond.code yX3_houseNow cX3_houseNow 3 (some .int), Cond.fieldLink RX3 7 "BirthStreetModel" "kindOf" "[I", Cond.fieldLink RX3 13 "BirthStreetModel" "ageOf" "[I", Cond.fieldLink RX3 16 "BirthStreetModel" "birthsOf" "[I", Cond.methodLink RX3 107 yX3_number, Cond.instanceMethod yX3_number, Cond.selects RX3 yX3_number yX3_number, Cond.code yX3_number cX3_number 2 (some .int), Cond.methodLink RX3 100 yX3_numberBy, Cond.instanceMethod yX3_numberBy, Cond.selects RX3 yX3_numberBy yX3_numberBy, Cond.code yX3_numberBy cX3_numberBy 3 (some .int)]
def wsX3_about_r2 : List Cond := [Cond.methodLink RX3 119 yX3_owes, Cond.instanceMethod yX3_owes, Cond.selects RX3 yX3_owes yX3_owes, Cond.code yX3_owes cX3_owes 4 (some .int), Cond.fieldLink RX3 94 "BirthStreetModel" "debts" "I", Cond.fieldLink RX3 25 "BirthStreetModel" "debtNumber" "[I", Cond.fieldLink RX3 88 "BirthStreetModel" "today" "I", Cond.fieldLink RX3 22 "BirthStreetModel" "debtMuch" "[I", Cond.methodLink RX3 116 yX3_houseOf, Cond.instanceMethod yX3_houseOf, Cond.selects RX3 yX3_houseOf yX3_houseOf, Cond.code yX3_houseOf cX3_houseOf 5 (some .int), Cond.methodLink RX3 113 yX3_numberOn, Cond.instanceMethod yX3_numberOn, Cond.selects RX3 yX3_numberOn yX3_numberOn, Cond.code yX3_numberOn cX3_numberOn 3 (some .int), Cond.fieldLink RX3 19 "BirthStreetModel" "ageThen" "[I", Cond.methodLink RX3 110 yX3_orderOf, Cond.instanceMethod yX3_orderOf, Cond.selects RX3 yX3_orderOf yX3_orderOf, Cond.code yX3_orderOf cX3_orderOf 4 (some .int)]
def wsX3_about : List Cond := .code yX3_about cX3_about 3 (some .int) :: ((wsX3_about_r1 ++ wsX3_about_r2) ++ wsX30)
def wsX3_as : List Cond := .code yX3_as cX3_as 4 (some .int) :: ([.fieldLink RX3 7 "BirthStreetModel" "kindOf" "[I", .methodLink RX3 122 yX3_isHouse, .instanceMethod yX3_isHouse, .selects RX3 yX3_isHouse yX3_isHouse, .initialized RX3, .code yX3_isHouse cX3_isHouse 2 (some .boolean), .fieldLink RX3 82 "BirthStreetModel" "houses" "I", .methodLink RX3 62 yX3_within, .static yX3_within, .code yX3_within cX3_within 3 (some .boolean)] ++ wsX30)
def wsX3_birth_r1 : List Cond := [Cond.fieldLink RX3 16 "BirthStreetModel" "birthsOf" "[I", Cond.fieldLink RX3 91 "BirthStreetModel" "births" "I", Cond.methodLink RX3 122 yX3_isHouse, Cond.instanceMethod yX3_isHouse, Cond.selects RX3 yX3_isHouse yX3_isHouse, Cond.initialized RX3, Cond.code yX3_isHouse cX3_isHouse 2 (some .boolean), Cond.fieldLink RX3 82 "BirthStreetModel" "houses" "I", Cond.methodLink RX3 62 yX3_within, Cond.static yX3_within, Cond.code yX3_within cX3_within 3 (some .boolean), Cond.methodLink RX3 128 yX3_mayBirth, Cond.instanceMethod yX3_mayBirth, Cond.selects RX3 yX3_mayBirth yX3_mayBirth, Cond.code yX3_mayBirth cX3_mayBirth 2 (some .boolean), Cond.fieldLink RX3 7 "BirthStreetModel" "kindOf" "[I", Cond.methodLink RX3 131 yX3_ageNone, Cond.instanceMethod yX3_ageNone, Cond.selects RX3 yX3_ageNone yX3_ageNone, Cond.code yX3_ageNone cX3_ageNone 2 none, Cond.fieldLink RX3 13 "BirthStreetModel" "ageOf" "[I", Cond.methodLink RX3 104 yX3_lends, Cond.instanceMethod yX3_lends, Cond.selects RX3 yX3_lends yX3_lends]
def wsX3_birth_r2 : List Cond := [Cond.code yX3_lends cX3_lends 2 (some .boolean)]
def wsX3_birth : List Cond := .code yX3_birth cX3_birth 2 (some .int) :: ((wsX3_birth_r1 ++ wsX3_birth_r2) ++ wsX30)
def wsX3_day : List Cond := .code yX3_day cX3_day 2 (some .int) :: ([.fieldLink RX3 82 "BirthStreetModel" "houses" "I", .fieldLink RX3 88 "BirthStreetModel" "today" "I", .fieldLink RX3 19 "BirthStreetModel" "ageThen" "[I", .fieldLink RX3 13 "BirthStreetModel" "ageOf" "[I", .methodLink RX3 135 yX3_ageMore, .instanceMethod yX3_ageMore, .selects RX3 yX3_ageMore yX3_ageMore, .initialized RX3, .code yX3_ageMore cX3_ageMore 2 none, .fieldLink RX3 7 "BirthStreetModel" "kindOf" "[I"] ++ wsX30)
def wsX3_then_r1 : List Cond := [Cond.methodLink RX3 122 yX3_isHouse, Cond.instanceMethod yX3_isHouse, Cond.selects RX3 yX3_isHouse yX3_isHouse, Cond.initialized RX3, Cond.code yX3_isHouse cX3_isHouse 2 (some .boolean), Cond.fieldLink RX3 82 "BirthStreetModel" "houses" "I", Cond.methodLink RX3 62 yX3_within, Cond.static yX3_within, Cond.code yX3_within cX3_within 3 (some .boolean), Cond.methodLink RX3 138 yX3_isDay, Cond.instanceMethod yX3_isDay, Cond.selects RX3 yX3_isDay yX3_isDay, Cond.code yX3_isDay cX3_isDay 2 (some .boolean), Cond.fieldLink RX3 88 "BirthStreetModel" "today" "I", Cond.methodLink RX3 113 yX3_numberOn, Cond.instanceMethod yX3_numberOn, Cond.selects RX3 yX3_numberOn yX3_numberOn, Cond.code yX3_numberOn cX3_numberOn 3 (some .int), Cond.fieldLink RX3 13 "BirthStreetModel" "ageOf" "[I", Cond.fieldLink RX3 19 "BirthStreetModel" "ageThen" "[I", Cond.methodLink RX3 100 yX3_numberBy, Cond.instanceMethod yX3_numberBy, Cond.selects RX3 yX3_numberBy yX3_numberBy, Cond.code yX3_numberBy cX3_numberBy 3 (some .int)]
def wsX3_then_r2 : List Cond := [Cond.fieldLink RX3 7 "BirthStreetModel" "kindOf" "[I"]
def wsX3_then : List Cond := .code yX3_then cX3_then 3 (some .int) :: ((wsX3_then_r1 ++ wsX3_then_r2) ++ wsX30)
def wsX3_goesTo_r1 : List Cond := [Cond.methodLink RX3 138 yX3_isDay, Cond.instanceMethod yX3_isDay, Cond.selects RX3 yX3_isDay yX3_isDay, Cond.initialized RX3, Cond.code yX3_isDay cX3_isDay 2 (some .boolean), Cond.fieldLink RX3 82 "BirthStreetModel" "houses" "I", Cond.fieldLink RX3 88 "BirthStreetModel" "today" "I", Cond.methodLink RX3 62 yX3_within, Cond.static yX3_within, Cond.code yX3_within cX3_within 3 (some .boolean), Cond.methodLink RX3 116 yX3_houseOf, Cond.instanceMethod yX3_houseOf, Cond.selects RX3 yX3_houseOf yX3_houseOf, Cond.code yX3_houseOf cX3_houseOf 5 (some .int), Cond.methodLink RX3 113 yX3_numberOn, Cond.instanceMethod yX3_numberOn, Cond.selects RX3 yX3_numberOn yX3_numberOn, Cond.code yX3_numberOn cX3_numberOn 3 (some .int), Cond.fieldLink RX3 13 "BirthStreetModel" "ageOf" "[I", Cond.fieldLink RX3 19 "BirthStreetModel" "ageThen" "[I", Cond.methodLink RX3 100 yX3_numberBy, Cond.instanceMethod yX3_numberBy, Cond.selects RX3 yX3_numberBy yX3_numberBy, Cond.code yX3_numberBy cX3_numberBy 3 (some .int)]
def wsX3_goesTo_r2 : List Cond := [Cond.fieldLink RX3 7 "BirthStreetModel" "kindOf" "[I"]
def wsX3_goesTo : List Cond := .code yX3_goesTo cX3_goesTo 3 (some .int) :: ((wsX3_goesTo_r1 ++ wsX3_goesTo_r2) ++ wsX30)
def wsX3_walk : List Cond := .code yX3_walk cX3_walk 1 (some .int) :: ([.fieldLink RX3 82 "BirthStreetModel" "houses" "I", .methodLink RX3 141 yX3_walkNow, .instanceMethod yX3_walkNow, .selects RX3 yX3_walkNow yX3_walkNow, .initialized RX3, .code yX3_walkNow cX3_walkNow 5 (some .int), .methodLink RX3 110 yX3_orderOf, .instanceMethod yX3_orderOf, .selects RX3 yX3_orderOf yX3_orderOf, .code yX3_orderOf cX3_orderOf 4 (some .int), .methodLink RX3 107 yX3_number, .instanceMethod yX3_number, .selects RX3 yX3_number yX3_number, .code yX3_number cX3_number 2 (some .int), .fieldLink RX3 13 "BirthStreetModel" "ageOf" "[I", .methodLink RX3 100 yX3_numberBy, .instanceMethod yX3_numberBy, .selects RX3 yX3_numberBy yX3_numberBy, .code yX3_numberBy cX3_numberBy 3 (some .int), .fieldLink RX3 7 "BirthStreetModel" "kindOf" "[I"] ++ wsX30)
def wsX3_debt : List Cond := .code yX3_debt cX3_debt 3 (some .int) :: ([.fieldLink RX3 82 "BirthStreetModel" "houses" "I", .fieldLink RX3 94 "BirthStreetModel" "debts" "I", .fieldLink RX3 22 "BirthStreetModel" "debtMuch" "[I", .fieldLink RX3 25 "BirthStreetModel" "debtNumber" "[I", .methodLink RX3 62 yX3_within, .static yX3_within, .initialized RX3, .code yX3_within cX3_within 3 (some .boolean)] ++ wsX30)
def wsX3_pay : List Cond := .code yX3_pay cX3_pay 3 (some .int) :: ([.fieldLink RX3 94 "BirthStreetModel" "debts" "I", .fieldLink RX3 22 "BirthStreetModel" "debtMuch" "[I"] ++ wsX30)
def wsX3_save : List Cond := .code yX3_save cX3_save 2 none :: ([.fieldLink RX3 38 "BirthStreetModel" "savedAge" "[I", .fieldLink RX3 13 "BirthStreetModel" "ageOf" "[I"] ++ wsX30)
def wsX3_load : List Cond := .code yX3_load cX3_load 2 none :: ([.fieldLink RX3 13 "BirthStreetModel" "ageOf" "[I", .fieldLink RX3 38 "BirthStreetModel" "savedAge" "[I"] ++ wsX30)
def wsX3_numbersAll : List Cond := .code yX3_numbersAll cX3_numbersAll 3 (some .int) :: ([.fieldLink RX3 82 "BirthStreetModel" "houses" "I", .methodLink RX3 107 yX3_number, .instanceMethod yX3_number, .selects RX3 yX3_number yX3_number, .initialized RX3, .code yX3_number cX3_number 2 (some .int), .fieldLink RX3 13 "BirthStreetModel" "ageOf" "[I", .methodLink RX3 100 yX3_numberBy, .instanceMethod yX3_numberBy, .selects RX3 yX3_numberBy yX3_numberBy, .code yX3_numberBy cX3_numberBy 3 (some .int), .fieldLink RX3 7 "BirthStreetModel" "kindOf" "[I"] ++ wsX30)
def wsX3_numbersBy_r1 : List Cond := [Cond.fieldLink RX3 82 "BirthStreetModel" "houses" "I", Cond.constant RX3 154 (268435456), Cond.methodLink RX3 144 yX3_isIn, Cond.static yX3_isIn, Cond.initialized RX3, Cond.code yX3_isIn cX3_isIn 2 (some .boolean), Cond.methodLink RX3 128 yX3_mayBirth, Cond.instanceMethod yX3_mayBirth, Cond.selects RX3 yX3_mayBirth yX3_mayBirth, Cond.code yX3_mayBirth cX3_mayBirth 2 (some .boolean), Cond.fieldLink RX3 7 "BirthStreetModel" "kindOf" "[I", Cond.methodLink RX3 131 yX3_ageNone, Cond.instanceMethod yX3_ageNone, Cond.selects RX3 yX3_ageNone yX3_ageNone, Cond.code yX3_ageNone cX3_ageNone 2 none, Cond.fieldLink RX3 13 "BirthStreetModel" "ageOf" "[I", Cond.methodLink RX3 104 yX3_lends, Cond.instanceMethod yX3_lends, Cond.selects RX3 yX3_lends yX3_lends, Cond.code yX3_lends cX3_lends 2 (some .boolean), Cond.methodLink RX3 148 yX3_numbersAll, Cond.instanceMethod yX3_numbersAll, Cond.selects RX3 yX3_numbersAll yX3_numbersAll, Cond.code yX3_numbersAll cX3_numbersAll 3 (some .int)]
def wsX3_numbersBy_r2 : List Cond := [Cond.methodLink RX3 107 yX3_number, Cond.instanceMethod yX3_number, Cond.selects RX3 yX3_number yX3_number, Cond.code yX3_number cX3_number 2 (some .int), Cond.methodLink RX3 100 yX3_numberBy, Cond.instanceMethod yX3_numberBy, Cond.selects RX3 yX3_numberBy yX3_numberBy, Cond.code yX3_numberBy cX3_numberBy 3 (some .int), Cond.methodLink RX3 151 yX3_load, Cond.instanceMethod yX3_load, Cond.selects RX3 yX3_load yX3_load, Cond.code yX3_load cX3_load 2 none, Cond.fieldLink RX3 38 "BirthStreetModel" "savedAge" "[I"]
def wsX3_numbersBy : List Cond := .code yX3_numbersBy cX3_numbersBy 4 (some .int) :: ((wsX3_numbersBy_r1 ++ wsX3_numbersBy_r2) ++ wsX30)
def wsX3_cheapNow_r1 : List Cond := [Cond.fieldLink RX3 82 "BirthStreetModel" "houses" "I", Cond.methodLink RX3 155 yX3_save, Cond.instanceMethod yX3_save, Cond.selects RX3 yX3_save yX3_save, Cond.initialized RX3, Cond.code yX3_save cX3_save 2 none, Cond.fieldLink RX3 38 "BirthStreetModel" "savedAge" "[I", Cond.fieldLink RX3 13 "BirthStreetModel" "ageOf" "[I", Cond.methodLink RX3 158 yX3_size, Cond.static yX3_size, Cond.code yX3_size cX3_size 3 (some .int), Cond.methodLink RX3 161 yX3_numbersBy, Cond.instanceMethod yX3_numbersBy, Cond.selects RX3 yX3_numbersBy yX3_numbersBy, Cond.code yX3_numbersBy cX3_numbersBy 4 (some .int), Cond.constant RX3 154 (268435456), Cond.methodLink RX3 144 yX3_isIn, Cond.static yX3_isIn, Cond.code yX3_isIn cX3_isIn 2 (some .boolean), Cond.methodLink RX3 128 yX3_mayBirth, Cond.instanceMethod yX3_mayBirth, Cond.selects RX3 yX3_mayBirth yX3_mayBirth, Cond.code yX3_mayBirth cX3_mayBirth 2 (some .boolean), Cond.fieldLink RX3 7 "BirthStreetModel" "kindOf" "[I"]
def wsX3_cheapNow_r2 : List Cond := [Cond.methodLink RX3 131 yX3_ageNone, Cond.instanceMethod yX3_ageNone, Cond.selects RX3 yX3_ageNone yX3_ageNone, Cond.code yX3_ageNone cX3_ageNone 2 none, Cond.methodLink RX3 104 yX3_lends, Cond.instanceMethod yX3_lends, Cond.selects RX3 yX3_lends yX3_lends, Cond.code yX3_lends cX3_lends 2 (some .boolean), Cond.methodLink RX3 148 yX3_numbersAll, Cond.instanceMethod yX3_numbersAll, Cond.selects RX3 yX3_numbersAll yX3_numbersAll, Cond.code yX3_numbersAll cX3_numbersAll 3 (some .int), Cond.methodLink RX3 107 yX3_number, Cond.instanceMethod yX3_number, Cond.selects RX3 yX3_number yX3_number, Cond.code yX3_number cX3_number 2 (some .int), Cond.methodLink RX3 100 yX3_numberBy, Cond.instanceMethod yX3_numberBy, Cond.selects RX3 yX3_numberBy yX3_numberBy, Cond.code yX3_numberBy cX3_numberBy 3 (some .int), Cond.methodLink RX3 151 yX3_load, Cond.instanceMethod yX3_load, Cond.selects RX3 yX3_load yX3_load, Cond.code yX3_load cX3_load 2 none]
def wsX3_cheapNow : List Cond := .code yX3_cheapNow cX3_cheapNow 6 (some .int) :: ((wsX3_cheapNow_r1 ++ wsX3_cheapNow_r2) ++ wsX30)
def wsX3_cheap_r1 : List Cond := [Cond.fieldLink RX3 82 "BirthStreetModel" "houses" "I", Cond.methodLink RX3 62 yX3_within, Cond.static yX3_within, Cond.initialized RX3, Cond.code yX3_within cX3_within 3 (some .boolean), Cond.methodLink RX3 164 yX3_cheapNow, Cond.instanceMethod yX3_cheapNow, Cond.selects RX3 yX3_cheapNow yX3_cheapNow, Cond.code yX3_cheapNow cX3_cheapNow 6 (some .int), Cond.methodLink RX3 155 yX3_save, Cond.instanceMethod yX3_save, Cond.selects RX3 yX3_save yX3_save, Cond.code yX3_save cX3_save 2 none, Cond.fieldLink RX3 38 "BirthStreetModel" "savedAge" "[I", Cond.fieldLink RX3 13 "BirthStreetModel" "ageOf" "[I", Cond.methodLink RX3 158 yX3_size, Cond.static yX3_size, Cond.code yX3_size cX3_size 3 (some .int), Cond.methodLink RX3 161 yX3_numbersBy, Cond.instanceMethod yX3_numbersBy, Cond.selects RX3 yX3_numbersBy yX3_numbersBy, Cond.code yX3_numbersBy cX3_numbersBy 4 (some .int), Cond.constant RX3 154 (268435456), Cond.methodLink RX3 144 yX3_isIn]
def wsX3_cheap_r2 : List Cond := [Cond.static yX3_isIn, Cond.code yX3_isIn cX3_isIn 2 (some .boolean), Cond.methodLink RX3 128 yX3_mayBirth, Cond.instanceMethod yX3_mayBirth, Cond.selects RX3 yX3_mayBirth yX3_mayBirth, Cond.code yX3_mayBirth cX3_mayBirth 2 (some .boolean), Cond.fieldLink RX3 7 "BirthStreetModel" "kindOf" "[I", Cond.methodLink RX3 131 yX3_ageNone, Cond.instanceMethod yX3_ageNone, Cond.selects RX3 yX3_ageNone yX3_ageNone, Cond.code yX3_ageNone cX3_ageNone 2 none, Cond.methodLink RX3 104 yX3_lends, Cond.instanceMethod yX3_lends, Cond.selects RX3 yX3_lends yX3_lends, Cond.code yX3_lends cX3_lends 2 (some .boolean), Cond.methodLink RX3 148 yX3_numbersAll, Cond.instanceMethod yX3_numbersAll, Cond.selects RX3 yX3_numbersAll yX3_numbersAll, Cond.code yX3_numbersAll cX3_numbersAll 3 (some .int), Cond.methodLink RX3 107 yX3_number, Cond.instanceMethod yX3_number, Cond.selects RX3 yX3_number yX3_number, Cond.code yX3_number cX3_number 2 (some .int), Cond.methodLink RX3 100 yX3_numberBy]
def wsX3_cheap_r3 : List Cond := [Cond.instanceMethod yX3_numberBy, Cond.selects RX3 yX3_numberBy yX3_numberBy, Cond.code yX3_numberBy cX3_numberBy 3 (some .int), Cond.methodLink RX3 151 yX3_load, Cond.instanceMethod yX3_load, Cond.selects RX3 yX3_load yX3_load, Cond.code yX3_load cX3_load 2 none]
def wsX3_cheap : List Cond := .code yX3_cheap cX3_cheap 3 (some .int) :: ((wsX3_cheap_r1 ++ (wsX3_cheap_r2 ++ wsX3_cheap_r3)) ++ wsX30)
def wsX3_whenNow : List Cond := .code yX3_whenNow cX3_whenNow 4 (some .int) :: ([.fieldLink RX3 7 "BirthStreetModel" "kindOf" "[I", .fieldLink RX3 13 "BirthStreetModel" "ageOf" "[I", .methodLink RX3 100 yX3_numberBy, .instanceMethod yX3_numberBy, .selects RX3 yX3_numberBy yX3_numberBy, .initialized RX3, .code yX3_numberBy cX3_numberBy 3 (some .int)] ++ wsX30)
def wsX3_when : List Cond := .code yX3_when cX3_when 3 (some .int) :: ([.methodLink RX3 122 yX3_isHouse, .instanceMethod yX3_isHouse, .selects RX3 yX3_isHouse yX3_isHouse, .initialized RX3, .code yX3_isHouse cX3_isHouse 2 (some .boolean), .fieldLink RX3 82 "BirthStreetModel" "houses" "I", .methodLink RX3 62 yX3_within, .static yX3_within, .code yX3_within cX3_within 3 (some .boolean), .methodLink RX3 167 yX3_whenNow, .instanceMethod yX3_whenNow, .selects RX3 yX3_whenNow yX3_whenNow, .code yX3_whenNow cX3_whenNow 4 (some .int), .fieldLink RX3 7 "BirthStreetModel" "kindOf" "[I", .fieldLink RX3 13 "BirthStreetModel" "ageOf" "[I", .methodLink RX3 100 yX3_numberBy, .instanceMethod yX3_numberBy, .selects RX3 yX3_numberBy yX3_numberBy, .code yX3_numberBy cX3_numberBy 3 (some .int)] ++ wsX30)
def wsX3_hear : List Cond := .code yX3_hear cX3_hear 3 (some .int) :: ([.fieldLink RX3 97 "BirthStreetModel" "heard" "I", .fieldLink RX3 28 "BirthStreetModel" "heardHouse" "[I", .fieldLink RX3 31 "BirthStreetModel" "heardNumber" "[I", .methodLink RX3 122 yX3_isHouse, .instanceMethod yX3_isHouse, .selects RX3 yX3_isHouse yX3_isHouse, .initialized RX3, .code yX3_isHouse cX3_isHouse 2 (some .boolean), .fieldLink RX3 82 "BirthStreetModel" "houses" "I", .methodLink RX3 62 yX3_within, .static yX3_within, .code yX3_within cX3_within 3 (some .boolean)] ++ wsX30)
def wsX3_forget : List Cond := .code yX3_forget cX3_forget 2 (some .int) :: ([.fieldLink RX3 97 "BirthStreetModel" "heard" "I"] ++ wsX30)
def wsX3_isHeard : List Cond := .code yX3_isHeard cX3_isHeard 4 (some .boolean) :: ([.fieldLink RX3 97 "BirthStreetModel" "heard" "I", .fieldLink RX3 28 "BirthStreetModel" "heardHouse" "[I", .fieldLink RX3 31 "BirthStreetModel" "heardNumber" "[I", .methodLink RX3 113 yX3_numberOn, .instanceMethod yX3_numberOn, .selects RX3 yX3_numberOn yX3_numberOn, .initialized RX3, .code yX3_numberOn cX3_numberOn 3 (some .int), .fieldLink RX3 88 "BirthStreetModel" "today" "I", .fieldLink RX3 13 "BirthStreetModel" "ageOf" "[I", .fieldLink RX3 19 "BirthStreetModel" "ageThen" "[I", .methodLink RX3 100 yX3_numberBy, .instanceMethod yX3_numberBy, .selects RX3 yX3_numberBy yX3_numberBy, .code yX3_numberBy cX3_numberBy 3 (some .int), .fieldLink RX3 7 "BirthStreetModel" "kindOf" "[I"] ++ wsX30)
def wsX3_daysNow : List Cond := .code yX3_daysNow cX3_daysNow 6 (some .int) :: ([.fieldLink RX3 88 "BirthStreetModel" "today" "I", .methodLink RX3 170 yX3_isHeard, .instanceMethod yX3_isHeard, .selects RX3 yX3_isHeard yX3_isHeard, .initialized RX3, .code yX3_isHeard cX3_isHeard 4 (some .boolean), .fieldLink RX3 97 "BirthStreetModel" "heard" "I", .fieldLink RX3 28 "BirthStreetModel" "heardHouse" "[I", .fieldLink RX3 31 "BirthStreetModel" "heardNumber" "[I", .methodLink RX3 113 yX3_numberOn, .instanceMethod yX3_numberOn, .selects RX3 yX3_numberOn yX3_numberOn, .code yX3_numberOn cX3_numberOn 3 (some .int), .fieldLink RX3 13 "BirthStreetModel" "ageOf" "[I", .fieldLink RX3 19 "BirthStreetModel" "ageThen" "[I", .methodLink RX3 100 yX3_numberBy, .instanceMethod yX3_numberBy, .selects RX3 yX3_numberBy yX3_numberBy, .code yX3_numberBy cX3_numberBy 3 (some .int), .fieldLink RX3 7 "BirthStreetModel" "kindOf" "[I"] ++ wsX30)
def wsX3_days_r1 : List Cond := [Cond.fieldLink RX3 82 "BirthStreetModel" "houses" "I", Cond.methodLink RX3 62 yX3_within, Cond.static yX3_within, Cond.initialized RX3, Cond.code yX3_within cX3_within 3 (some .boolean), Cond.methodLink RX3 173 yX3_daysNow, Cond.instanceMethod yX3_daysNow, Cond.selects RX3 yX3_daysNow yX3_daysNow, Cond.code yX3_daysNow cX3_daysNow 6 (some .int), Cond.fieldLink RX3 88 "BirthStreetModel" "today" "I", Cond.methodLink RX3 170 yX3_isHeard, Cond.instanceMethod yX3_isHeard, Cond.selects RX3 yX3_isHeard yX3_isHeard, Cond.code yX3_isHeard cX3_isHeard 4 (some .boolean), Cond.fieldLink RX3 97 "BirthStreetModel" "heard" "I", Cond.fieldLink RX3 28 "BirthStreetModel" "heardHouse" "[I", Cond.fieldLink RX3 31 "BirthStreetModel" "heardNumber" "[I", Cond.methodLink RX3 113 yX3_numberOn, Cond.instanceMethod yX3_numberOn, Cond.selects RX3 yX3_numberOn yX3_numberOn, Cond.code yX3_numberOn cX3_numberOn 3 (some .int), Cond.fieldLink RX3 13 "BirthStreetModel" "ageOf" "[I", Cond.fieldLink RX3 19 "BirthStreetModel" "ageThen" "[I", Cond.methodLink RX3 100 yX3_numberBy]
def wsX3_days_r2 : List Cond := [Cond.instanceMethod yX3_numberBy, Cond.selects RX3 yX3_numberBy yX3_numberBy, Cond.code yX3_numberBy cX3_numberBy 3 (some .int), Cond.fieldLink RX3 7 "BirthStreetModel" "kindOf" "[I"]
def wsX3_days : List Cond := .code yX3_days cX3_days 2 (some .int) :: ((wsX3_days_r1 ++ wsX3_days_r2) ++ wsX30)
def wsX3_worstOf : List Cond := .code yX3_worstOf cX3_worstOf 6 (some .int) :: ([.fieldLink RX3 88 "BirthStreetModel" "today" "I", .methodLink RX3 170 yX3_isHeard, .instanceMethod yX3_isHeard, .selects RX3 yX3_isHeard yX3_isHeard, .initialized RX3, .code yX3_isHeard cX3_isHeard 4 (some .boolean), .fieldLink RX3 97 "BirthStreetModel" "heard" "I", .fieldLink RX3 28 "BirthStreetModel" "heardHouse" "[I", .fieldLink RX3 31 "BirthStreetModel" "heardNumber" "[I", .methodLink RX3 113 yX3_numberOn, .instanceMethod yX3_numberOn, .selects RX3 yX3_numberOn yX3_numberOn, .code yX3_numberOn cX3_numberOn 3 (some .int), .fieldLink RX3 13 "BirthStreetModel" "ageOf" "[I", .fieldLink RX3 19 "BirthStreetModel" "ageThen" "[I", .methodLink RX3 100 yX3_numberBy, .instanceMethod yX3_numberBy, .selects RX3 yX3_numberBy yX3_numberBy, .code yX3_numberBy cX3_numberBy 3 (some .int), .fieldLink RX3 7 "BirthStreetModel" "kindOf" "[I"] ++ wsX30)
def wsX3_askNow_r1 : List Cond := [Cond.constant RX3 154 (268435456), Cond.fieldLink RX3 82 "BirthStreetModel" "houses" "I", Cond.methodLink RX3 173 yX3_daysNow, Cond.instanceMethod yX3_daysNow, Cond.selects RX3 yX3_daysNow yX3_daysNow, Cond.initialized RX3, Cond.code yX3_daysNow cX3_daysNow 6 (some .int), Cond.fieldLink RX3 88 "BirthStreetModel" "today" "I", Cond.methodLink RX3 170 yX3_isHeard, Cond.instanceMethod yX3_isHeard, Cond.selects RX3 yX3_isHeard yX3_isHeard, Cond.code yX3_isHeard cX3_isHeard 4 (some .boolean), Cond.fieldLink RX3 97 "BirthStreetModel" "heard" "I", Cond.fieldLink RX3 28 "BirthStreetModel" "heardHouse" "[I", Cond.fieldLink RX3 31 "BirthStreetModel" "heardNumber" "[I", Cond.methodLink RX3 113 yX3_numberOn, Cond.instanceMethod yX3_numberOn, Cond.selects RX3 yX3_numberOn yX3_numberOn, Cond.code yX3_numberOn cX3_numberOn 3 (some .int), Cond.fieldLink RX3 13 "BirthStreetModel" "ageOf" "[I", Cond.fieldLink RX3 19 "BirthStreetModel" "ageThen" "[I", Cond.methodLink RX3 100 yX3_numberBy, Cond.instanceMethod yX3_numberBy, Cond.selects RX3 yX3_numberBy yX3_numberBy]
def wsX3_askNow_r2 : List Cond := [Cond.code yX3_numberBy cX3_numberBy 3 (some .int), Cond.fieldLink RX3 7 "BirthStreetModel" "kindOf" "[I", Cond.methodLink RX3 176 yX3_worstOf, Cond.instanceMethod yX3_worstOf, Cond.selects RX3 yX3_worstOf yX3_worstOf, Cond.code yX3_worstOf cX3_worstOf 6 (some .int)]
def wsX3_askNow : List Cond := .code yX3_askNow cX3_askNow 5 (some .int) :: ((wsX3_askNow_r1 ++ wsX3_askNow_r2) ++ wsX30)
def wsX3_ask_r1 : List Cond := [Cond.fieldLink RX3 82 "BirthStreetModel" "houses" "I", Cond.methodLink RX3 179 yX3_askNow, Cond.instanceMethod yX3_askNow, Cond.selects RX3 yX3_askNow yX3_askNow, Cond.initialized RX3, Cond.code yX3_askNow cX3_askNow 5 (some .int), Cond.constant RX3 154 (268435456), Cond.methodLink RX3 173 yX3_daysNow, Cond.instanceMethod yX3_daysNow, Cond.selects RX3 yX3_daysNow yX3_daysNow, Cond.code yX3_daysNow cX3_daysNow 6 (some .int), Cond.fieldLink RX3 88 "BirthStreetModel" "today" "I", Cond.methodLink RX3 170 yX3_isHeard, Cond.instanceMethod yX3_isHeard, Cond.selects RX3 yX3_isHeard yX3_isHeard, Cond.code yX3_isHeard cX3_isHeard 4 (some .boolean), Cond.fieldLink RX3 97 "BirthStreetModel" "heard" "I", Cond.fieldLink RX3 28 "BirthStreetModel" "heardHouse" "[I", Cond.fieldLink RX3 31 "BirthStreetModel" "heardNumber" "[I", Cond.methodLink RX3 113 yX3_numberOn, Cond.instanceMethod yX3_numberOn, Cond.selects RX3 yX3_numberOn yX3_numberOn, Cond.code yX3_numberOn cX3_numberOn 3 (some .int), Cond.fieldLink RX3 13 "BirthStreetModel" "ageOf" "[I"]
def wsX3_ask_r2 : List Cond := [Cond.fieldLink RX3 19 "BirthStreetModel" "ageThen" "[I", Cond.methodLink RX3 100 yX3_numberBy, Cond.instanceMethod yX3_numberBy, Cond.selects RX3 yX3_numberBy yX3_numberBy, Cond.code yX3_numberBy cX3_numberBy 3 (some .int), Cond.fieldLink RX3 7 "BirthStreetModel" "kindOf" "[I", Cond.methodLink RX3 176 yX3_worstOf, Cond.instanceMethod yX3_worstOf, Cond.selects RX3 yX3_worstOf yX3_worstOf, Cond.code yX3_worstOf cX3_worstOf 6 (some .int)]
def wsX3_ask : List Cond := .code yX3_ask cX3_ask 1 (some .int) :: ((wsX3_ask_r1 ++ wsX3_ask_r2) ++ wsX30)
def wsX3_draw : List Cond := .code yX3_draw cX3_draw 2 (some .int) :: ([.constantLong RX3 182 (1103515245), .fieldLink RX3 184 "BirthStreetModel" "seedNow" "J", .constantLong RX3 188 (12345), .constantLong RX3 190 (2147483647), .constantLong RX3 192 (65536)] ++ wsX30)
def wsX3_yearsNow_r1 : List Cond := [Cond.fieldLink RX3 184 "BirthStreetModel" "seedNow" "J", Cond.fieldLink RX3 82 "BirthStreetModel" "houses" "I", Cond.methodLink RX3 155 yX3_save, Cond.instanceMethod yX3_save, Cond.selects RX3 yX3_save yX3_save, Cond.initialized RX3, Cond.code yX3_save cX3_save 2 none, Cond.fieldLink RX3 38 "BirthStreetModel" "savedAge" "[I", Cond.fieldLink RX3 13 "BirthStreetModel" "ageOf" "[I", Cond.methodLink RX3 194 yX3_draw, Cond.instanceMethod yX3_draw, Cond.selects RX3 yX3_draw yX3_draw, Cond.code yX3_draw cX3_draw 2 (some .int), Cond.constantLong RX3 182 (1103515245), Cond.constantLong RX3 188 (12345), Cond.constantLong RX3 190 (2147483647), Cond.constantLong RX3 192 (65536), Cond.methodLink RX3 128 yX3_mayBirth, Cond.instanceMethod yX3_mayBirth, Cond.selects RX3 yX3_mayBirth yX3_mayBirth, Cond.code yX3_mayBirth cX3_mayBirth 2 (some .boolean), Cond.fieldLink RX3 7 "BirthStreetModel" "kindOf" "[I", Cond.methodLink RX3 131 yX3_ageNone, Cond.instanceMethod yX3_ageNone]
def wsX3_yearsNow_r2 : List Cond := [Cond.selects RX3 yX3_ageNone yX3_ageNone, Cond.code yX3_ageNone cX3_ageNone 2 none, Cond.methodLink RX3 104 yX3_lends, Cond.instanceMethod yX3_lends, Cond.selects RX3 yX3_lends yX3_lends, Cond.code yX3_lends cX3_lends 2 (some .boolean), Cond.methodLink RX3 141 yX3_walkNow, Cond.instanceMethod yX3_walkNow, Cond.selects RX3 yX3_walkNow yX3_walkNow, Cond.code yX3_walkNow cX3_walkNow 5 (some .int), Cond.methodLink RX3 110 yX3_orderOf, Cond.instanceMethod yX3_orderOf, Cond.selects RX3 yX3_orderOf yX3_orderOf, Cond.code yX3_orderOf cX3_orderOf 4 (some .int), Cond.methodLink RX3 107 yX3_number, Cond.instanceMethod yX3_number, Cond.selects RX3 yX3_number yX3_number, Cond.code yX3_number cX3_number 2 (some .int), Cond.methodLink RX3 100 yX3_numberBy, Cond.instanceMethod yX3_numberBy, Cond.selects RX3 yX3_numberBy yX3_numberBy, Cond.code yX3_numberBy cX3_numberBy 3 (some .int), Cond.methodLink RX3 135 yX3_ageMore, Cond.instanceMethod yX3_ageMore]
def wsX3_yearsNow_r3 : List Cond := [Cond.selects RX3 yX3_ageMore yX3_ageMore, Cond.code yX3_ageMore cX3_ageMore 2 none, Cond.methodLink RX3 148 yX3_numbersAll, Cond.instanceMethod yX3_numbersAll, Cond.selects RX3 yX3_numbersAll yX3_numbersAll, Cond.code yX3_numbersAll cX3_numbersAll 3 (some .int), Cond.methodLink RX3 151 yX3_load, Cond.instanceMethod yX3_load, Cond.selects RX3 yX3_load yX3_load, Cond.code yX3_load cX3_load 2 none]
def wsX3_yearsNow : List Cond := .code yX3_yearsNow cX3_yearsNow 7 (some .int) :: ((wsX3_yearsNow_r1 ++ (wsX3_yearsNow_r2 ++ wsX3_yearsNow_r3)) ++ wsX30)
def wsX3_years_r1 : List Cond := [Cond.fieldLink RX3 82 "BirthStreetModel" "houses" "I", Cond.methodLink RX3 62 yX3_within, Cond.static yX3_within, Cond.initialized RX3, Cond.code yX3_within cX3_within 3 (some .boolean), Cond.methodLink RX3 197 yX3_yearsNow, Cond.instanceMethod yX3_yearsNow, Cond.selects RX3 yX3_yearsNow yX3_yearsNow, Cond.code yX3_yearsNow cX3_yearsNow 7 (some .int), Cond.fieldLink RX3 184 "BirthStreetModel" "seedNow" "J", Cond.methodLink RX3 155 yX3_save, Cond.instanceMethod yX3_save, Cond.selects RX3 yX3_save yX3_save, Cond.code yX3_save cX3_save 2 none, Cond.fieldLink RX3 38 "BirthStreetModel" "savedAge" "[I", Cond.fieldLink RX3 13 "BirthStreetModel" "ageOf" "[I", Cond.methodLink RX3 194 yX3_draw, Cond.instanceMethod yX3_draw, Cond.selects RX3 yX3_draw yX3_draw, Cond.code yX3_draw cX3_draw 2 (some .int), Cond.constantLong RX3 182 (1103515245), Cond.constantLong RX3 188 (12345), Cond.constantLong RX3 190 (2147483647), Cond.constantLong RX3 192 (65536)]
def wsX3_years_r2 : List Cond := [Cond.methodLink RX3 128 yX3_mayBirth, Cond.instanceMethod yX3_mayBirth, Cond.selects RX3 yX3_mayBirth yX3_mayBirth, Cond.code yX3_mayBirth cX3_mayBirth 2 (some .boolean), Cond.fieldLink RX3 7 "BirthStreetModel" "kindOf" "[I", Cond.methodLink RX3 131 yX3_ageNone, Cond.instanceMethod yX3_ageNone, Cond.selects RX3 yX3_ageNone yX3_ageNone, Cond.code yX3_ageNone cX3_ageNone 2 none, Cond.methodLink RX3 104 yX3_lends, Cond.instanceMethod yX3_lends, Cond.selects RX3 yX3_lends yX3_lends, Cond.code yX3_lends cX3_lends 2 (some .boolean), Cond.methodLink RX3 141 yX3_walkNow, Cond.instanceMethod yX3_walkNow, Cond.selects RX3 yX3_walkNow yX3_walkNow, Cond.code yX3_walkNow cX3_walkNow 5 (some .int), Cond.methodLink RX3 110 yX3_orderOf, Cond.instanceMethod yX3_orderOf, Cond.selects RX3 yX3_orderOf yX3_orderOf, Cond.code yX3_orderOf cX3_orderOf 4 (some .int), Cond.methodLink RX3 107 yX3_number, Cond.instanceMethod yX3_number, Cond.selects RX3 yX3_number yX3_number]
def wsX3_years_r3 : List Cond := [Cond.code yX3_number cX3_number 2 (some .int), Cond.methodLink RX3 100 yX3_numberBy, Cond.instanceMethod yX3_numberBy, Cond.selects RX3 yX3_numberBy yX3_numberBy, Cond.code yX3_numberBy cX3_numberBy 3 (some .int), Cond.methodLink RX3 135 yX3_ageMore, Cond.instanceMethod yX3_ageMore, Cond.selects RX3 yX3_ageMore yX3_ageMore, Cond.code yX3_ageMore cX3_ageMore 2 none, Cond.methodLink RX3 148 yX3_numbersAll, Cond.instanceMethod yX3_numbersAll, Cond.selects RX3 yX3_numbersAll yX3_numbersAll, Cond.code yX3_numbersAll cX3_numbersAll 3 (some .int), Cond.methodLink RX3 151 yX3_load, Cond.instanceMethod yX3_load, Cond.selects RX3 yX3_load yX3_load, Cond.code yX3_load cX3_load 2 none]
def wsX3_years : List Cond := .code yX3_years cX3_years 4 (some .int) :: ((wsX3_years_r1 ++ (wsX3_years_r2 ++ wsX3_years_r3)) ++ wsX30)
def wsX3_image_r1 : List Cond := [Cond.fieldLink RX3 82 "BirthStreetModel" "houses" "I", Cond.fieldLink RX3 201 "BirthStreetModel" "isKept" "Z", Cond.fieldLink RX3 85 "BirthStreetModel" "streets" "I", Cond.fieldLink RX3 205 "BirthStreetModel" "keptStreet" "I", Cond.fieldLink RX3 88 "BirthStreetModel" "today" "I", Cond.fieldLink RX3 208 "BirthStreetModel" "keptToday" "I", Cond.fieldLink RX3 91 "BirthStreetModel" "births" "I", Cond.fieldLink RX3 211 "BirthStreetModel" "keptBirths" "I", Cond.fieldLink RX3 94 "BirthStreetModel" "debts" "I", Cond.fieldLink RX3 214 "BirthStreetModel" "keptDebts" "I", Cond.fieldLink RX3 97 "BirthStreetModel" "heard" "I", Cond.fieldLink RX3 217 "BirthStreetModel" "keptHeard" "I", Cond.fieldLink RX3 41 "BirthStreetModel" "keptAge" "[I", Cond.fieldLink RX3 13 "BirthStreetModel" "ageOf" "[I", Cond.fieldLink RX3 44 "BirthStreetModel" "keptBirthsOf" "[I", Cond.fieldLink RX3 16 "BirthStreetModel" "birthsOf" "[I", Cond.fieldLink RX3 50 "BirthStreetModel" "keptMuch" "[I", Cond.fieldLink RX3 22 "BirthStreetModel" "debtMuch" "[I", Cond.fieldLink RX3 53 "BirthStreetModel" "keptNumber" "[I", Cond.fieldLink RX3 25 "BirthStreetModel" "debtNumber" "[I", Cond.fieldLink RX3 56 "BirthStreetModel" "keptHouse" "[I", Cond.fieldLink RX3 28 "BirthStreetModel" "heardHouse" "[I", Cond.fieldLink RX3 59 "BirthStreetModel" "keptHeardNumber" "[I", Cond.fieldLink RX3 31 "BirthStreetModel" "heardNumber" "[I"]
def wsX3_image_r2 : List Cond := [Cond.fieldLink RX3 47 "BirthStreetModel" "keptThen" "[I", Cond.fieldLink RX3 19 "BirthStreetModel" "ageThen" "[I"]
def wsX3_image : List Cond := .code yX3_image cX3_image 2 (some .int) :: ((wsX3_image_r1 ++ wsX3_image_r2) ++ wsX30)
def wsX3_restore_r1 : List Cond := [Cond.fieldLink RX3 201 "BirthStreetModel" "isKept" "Z", Cond.fieldLink RX3 205 "BirthStreetModel" "keptStreet" "I", Cond.fieldLink RX3 85 "BirthStreetModel" "streets" "I", Cond.fieldLink RX3 208 "BirthStreetModel" "keptToday" "I", Cond.fieldLink RX3 88 "BirthStreetModel" "today" "I", Cond.fieldLink RX3 211 "BirthStreetModel" "keptBirths" "I", Cond.fieldLink RX3 91 "BirthStreetModel" "births" "I", Cond.fieldLink RX3 214 "BirthStreetModel" "keptDebts" "I", Cond.fieldLink RX3 94 "BirthStreetModel" "debts" "I", Cond.fieldLink RX3 217 "BirthStreetModel" "keptHeard" "I", Cond.fieldLink RX3 97 "BirthStreetModel" "heard" "I", Cond.fieldLink RX3 13 "BirthStreetModel" "ageOf" "[I", Cond.fieldLink RX3 41 "BirthStreetModel" "keptAge" "[I", Cond.fieldLink RX3 16 "BirthStreetModel" "birthsOf" "[I", Cond.fieldLink RX3 44 "BirthStreetModel" "keptBirthsOf" "[I", Cond.fieldLink RX3 22 "BirthStreetModel" "debtMuch" "[I", Cond.fieldLink RX3 50 "BirthStreetModel" "keptMuch" "[I", Cond.fieldLink RX3 25 "BirthStreetModel" "debtNumber" "[I", Cond.fieldLink RX3 53 "BirthStreetModel" "keptNumber" "[I", Cond.fieldLink RX3 28 "BirthStreetModel" "heardHouse" "[I", Cond.fieldLink RX3 56 "BirthStreetModel" "keptHouse" "[I", Cond.fieldLink RX3 31 "BirthStreetModel" "heardNumber" "[I", Cond.fieldLink RX3 59 "BirthStreetModel" "keptHeardNumber" "[I", Cond.fieldLink RX3 19 "BirthStreetModel" "ageThen" "[I"]
def wsX3_restore_r2 : List Cond := [Cond.fieldLink RX3 47 "BirthStreetModel" "keptThen" "[I"]
def wsX3_restore : List Cond := .code yX3_restore cX3_restore 2 (some .int) :: ((wsX3_restore_r1 ++ wsX3_restore_r2) ++ wsX30)
def wsX3_unlike : List Cond := .code yX3_unlike cX3_unlike 3 (some .int) :: ([.fieldLink RX3 82 "BirthStreetModel" "houses" "I", .fieldLink RX3 88 "BirthStreetModel" "today" "I", .methodLink RX3 107 yX3_number, .instanceMethod yX3_number, .selects RX3 yX3_number yX3_number, .initialized RX3, .code yX3_number cX3_number 2 (some .int), .fieldLink RX3 13 "BirthStreetModel" "ageOf" "[I", .methodLink RX3 100 yX3_numberBy, .instanceMethod yX3_numberBy, .selects RX3 yX3_numberBy yX3_numberBy, .code yX3_numberBy cX3_numberBy 3 (some .int), .fieldLink RX3 7 "BirthStreetModel" "kindOf" "[I", .methodLink RX3 116 yX3_houseOf, .instanceMethod yX3_houseOf, .selects RX3 yX3_houseOf yX3_houseOf, .code yX3_houseOf cX3_houseOf 5 (some .int), .methodLink RX3 113 yX3_numberOn, .instanceMethod yX3_numberOn, .selects RX3 yX3_numberOn yX3_numberOn, .code yX3_numberOn cX3_numberOn 3 (some .int), .fieldLink RX3 19 "BirthStreetModel" "ageThen" "[I"] ++ wsX30)
def wsX3_owesAll_r1 : List Cond := [Cond.fieldLink RX3 82 "BirthStreetModel" "houses" "I", Cond.methodLink RX3 119 yX3_owes, Cond.instanceMethod yX3_owes, Cond.selects RX3 yX3_owes yX3_owes, Cond.initialized RX3, Cond.code yX3_owes cX3_owes 4 (some .int), Cond.fieldLink RX3 94 "BirthStreetModel" "debts" "I", Cond.fieldLink RX3 25 "BirthStreetModel" "debtNumber" "[I", Cond.fieldLink RX3 88 "BirthStreetModel" "today" "I", Cond.fieldLink RX3 22 "BirthStreetModel" "debtMuch" "[I", Cond.methodLink RX3 116 yX3_houseOf, Cond.instanceMethod yX3_houseOf, Cond.selects RX3 yX3_houseOf yX3_houseOf, Cond.code yX3_houseOf cX3_houseOf 5 (some .int), Cond.methodLink RX3 113 yX3_numberOn, Cond.instanceMethod yX3_numberOn, Cond.selects RX3 yX3_numberOn yX3_numberOn, Cond.code yX3_numberOn cX3_numberOn 3 (some .int), Cond.fieldLink RX3 13 "BirthStreetModel" "ageOf" "[I", Cond.fieldLink RX3 19 "BirthStreetModel" "ageThen" "[I", Cond.methodLink RX3 100 yX3_numberBy, Cond.instanceMethod yX3_numberBy, Cond.selects RX3 yX3_numberBy yX3_numberBy, Cond.code yX3_numberBy cX3_numberBy 3 (some .int)]
def wsX3_owesAll_r2 : List Cond := [Cond.fieldLink RX3 7 "BirthStreetModel" "kindOf" "[I"]
def wsX3_owesAll : List Cond := .code yX3_owesAll cX3_owesAll 3 (some .int) :: ((wsX3_owesAll_r1 ++ wsX3_owesAll_r2) ++ wsX30)
def wsX3_howMany_r1 : List Cond := [Cond.fieldLink RX3 82 "BirthStreetModel" "houses" "I", Cond.fieldLink RX3 88 "BirthStreetModel" "today" "I", Cond.fieldLink RX3 91 "BirthStreetModel" "births" "I", Cond.fieldLink RX3 94 "BirthStreetModel" "debts" "I", Cond.fieldLink RX3 97 "BirthStreetModel" "heard" "I", Cond.fieldLink RX3 66 "BirthStreetModel" "pageLength" "I", Cond.fieldLink RX3 85 "BirthStreetModel" "streets" "I", Cond.methodLink RX3 148 yX3_numbersAll, Cond.instanceMethod yX3_numbersAll, Cond.selects RX3 yX3_numbersAll yX3_numbersAll, Cond.initialized RX3, Cond.code yX3_numbersAll cX3_numbersAll 3 (some .int), Cond.methodLink RX3 107 yX3_number, Cond.instanceMethod yX3_number, Cond.selects RX3 yX3_number yX3_number, Cond.code yX3_number cX3_number 2 (some .int), Cond.fieldLink RX3 13 "BirthStreetModel" "ageOf" "[I", Cond.methodLink RX3 100 yX3_numberBy, Cond.instanceMethod yX3_numberBy, Cond.selects RX3 yX3_numberBy yX3_numberBy, Cond.code yX3_numberBy cX3_numberBy 3 (some .int), Cond.fieldLink RX3 7 "BirthStreetModel" "kindOf" "[I", Cond.methodLink RX3 220 yX3_unlike, Cond.instanceMethod yX3_unlike]
def wsX3_howMany_r2 : List Cond := [Cond.selects RX3 yX3_unlike yX3_unlike, Cond.code yX3_unlike cX3_unlike 3 (some .int), Cond.methodLink RX3 116 yX3_houseOf, Cond.instanceMethod yX3_houseOf, Cond.selects RX3 yX3_houseOf yX3_houseOf, Cond.code yX3_houseOf cX3_houseOf 5 (some .int), Cond.methodLink RX3 113 yX3_numberOn, Cond.instanceMethod yX3_numberOn, Cond.selects RX3 yX3_numberOn yX3_numberOn, Cond.code yX3_numberOn cX3_numberOn 3 (some .int), Cond.fieldLink RX3 19 "BirthStreetModel" "ageThen" "[I", Cond.methodLink RX3 223 yX3_owesAll, Cond.instanceMethod yX3_owesAll, Cond.selects RX3 yX3_owesAll yX3_owesAll, Cond.code yX3_owesAll cX3_owesAll 3 (some .int), Cond.methodLink RX3 119 yX3_owes, Cond.instanceMethod yX3_owes, Cond.selects RX3 yX3_owes yX3_owes, Cond.code yX3_owes cX3_owes 4 (some .int), Cond.fieldLink RX3 25 "BirthStreetModel" "debtNumber" "[I", Cond.fieldLink RX3 22 "BirthStreetModel" "debtMuch" "[I"]
def wsX3_howMany : List Cond := .code yX3_howMany cX3_howMany 2 (some .int) :: ((wsX3_howMany_r1 ++ wsX3_howMany_r2) ++ wsX30)
def wsX3_count_r1 : List Cond := [Cond.methodLink RX3 226 yX3_howMany, Cond.instanceMethod yX3_howMany, Cond.selects RX3 yX3_howMany yX3_howMany, Cond.initialized RX3, Cond.code yX3_howMany cX3_howMany 2 (some .int), Cond.fieldLink RX3 82 "BirthStreetModel" "houses" "I", Cond.fieldLink RX3 88 "BirthStreetModel" "today" "I", Cond.fieldLink RX3 91 "BirthStreetModel" "births" "I", Cond.fieldLink RX3 94 "BirthStreetModel" "debts" "I", Cond.fieldLink RX3 97 "BirthStreetModel" "heard" "I", Cond.fieldLink RX3 66 "BirthStreetModel" "pageLength" "I", Cond.fieldLink RX3 85 "BirthStreetModel" "streets" "I", Cond.methodLink RX3 148 yX3_numbersAll, Cond.instanceMethod yX3_numbersAll, Cond.selects RX3 yX3_numbersAll yX3_numbersAll, Cond.code yX3_numbersAll cX3_numbersAll 3 (some .int), Cond.methodLink RX3 107 yX3_number, Cond.instanceMethod yX3_number, Cond.selects RX3 yX3_number yX3_number, Cond.code yX3_number cX3_number 2 (some .int), Cond.fieldLink RX3 13 "BirthStreetModel" "ageOf" "[I", Cond.methodLink RX3 100 yX3_numberBy, Cond.instanceMethod yX3_numberBy, Cond.selects RX3 yX3_numberBy yX3_numberBy]
def wsX3_count_r2 : List Cond := [Cond.code yX3_numberBy cX3_numberBy 3 (some .int), Cond.fieldLink RX3 7 "BirthStreetModel" "kindOf" "[I", Cond.methodLink RX3 220 yX3_unlike, Cond.instanceMethod yX3_unlike, Cond.selects RX3 yX3_unlike yX3_unlike, Cond.code yX3_unlike cX3_unlike 3 (some .int), Cond.methodLink RX3 116 yX3_houseOf, Cond.instanceMethod yX3_houseOf, Cond.selects RX3 yX3_houseOf yX3_houseOf, Cond.code yX3_houseOf cX3_houseOf 5 (some .int), Cond.methodLink RX3 113 yX3_numberOn, Cond.instanceMethod yX3_numberOn, Cond.selects RX3 yX3_numberOn yX3_numberOn, Cond.code yX3_numberOn cX3_numberOn 3 (some .int), Cond.fieldLink RX3 19 "BirthStreetModel" "ageThen" "[I", Cond.methodLink RX3 223 yX3_owesAll, Cond.instanceMethod yX3_owesAll, Cond.selects RX3 yX3_owesAll yX3_owesAll, Cond.code yX3_owesAll cX3_owesAll 3 (some .int), Cond.methodLink RX3 119 yX3_owes, Cond.instanceMethod yX3_owes, Cond.selects RX3 yX3_owes yX3_owes, Cond.code yX3_owes cX3_owes 4 (some .int), Cond.fieldLink RX3 25 "BirthStreetModel" "debtNumber" "[I"]
def wsX3_count_r3 : List Cond := [Cond.fieldLink RX3 22 "BirthStreetModel" "debtMuch" "[I"]
def wsX3_count : List Cond := .code yX3_count cX3_count 2 (some .int) :: ((wsX3_count_r1 ++ (wsX3_count_r2 ++ wsX3_count_r3)) ++ wsX30)
def wsX3_mix : List Cond := .code yX3_mix cX3_mix 3 none :: ([.constantLong RX3 229 (31), .fieldLink RX3 231 "BirthStreetModel" "h" "J"] ++ wsX30)
def wsX3_mixHouse_r1 : List Cond := [Cond.fieldLink RX3 88 "BirthStreetModel" "today" "I", Cond.methodLink RX3 125 yX3_houseNow, Cond.instanceMethod yX3_houseNow, Cond.selects RX3 yX3_houseNow yX3_houseNow, Cond.initialized RX3, Cond.code yX3_houseNow cX3_houseNow 3 (some .int), Cond.fieldLink RX3 7 "BirthStreetModel" "kindOf" "[I", Cond.fieldLink RX3 13 "BirthStreetModel" "ageOf" "[I", Cond.fieldLink RX3 16 "BirthStreetModel" "birthsOf" "[I", Cond.methodLink RX3 107 yX3_number, Cond.instanceMethod yX3_number, Cond.selects RX3 yX3_number yX3_number, Cond.code yX3_number cX3_number 2 (some .int), Cond.methodLink RX3 100 yX3_numberBy, Cond.instanceMethod yX3_numberBy, Cond.selects RX3 yX3_numberBy yX3_numberBy, Cond.code yX3_numberBy cX3_numberBy 3 (some .int), Cond.methodLink RX3 119 yX3_owes, Cond.instanceMethod yX3_owes, Cond.selects RX3 yX3_owes yX3_owes, Cond.code yX3_owes cX3_owes 4 (some .int), Cond.fieldLink RX3 94 "BirthStreetModel" "debts" "I", Cond.fieldLink RX3 25 "BirthStreetModel" "debtNumber" "[I", Cond.fieldLink RX3 22 "BirthStreetModel" "debtMuch" "[I"]
def wsX3_mixHouse_r2 : List Cond := [Cond.methodLink RX3 116 yX3_houseOf, Cond.instanceMethod yX3_houseOf, Cond.selects RX3 yX3_houseOf yX3_houseOf, Cond.code yX3_houseOf cX3_houseOf 5 (some .int), Cond.fieldLink RX3 82 "BirthStreetModel" "houses" "I", Cond.methodLink RX3 113 yX3_numberOn, Cond.instanceMethod yX3_numberOn, Cond.selects RX3 yX3_numberOn yX3_numberOn, Cond.code yX3_numberOn cX3_numberOn 3 (some .int), Cond.fieldLink RX3 19 "BirthStreetModel" "ageThen" "[I", Cond.methodLink RX3 110 yX3_orderOf, Cond.instanceMethod yX3_orderOf, Cond.selects RX3 yX3_orderOf yX3_orderOf, Cond.code yX3_orderOf cX3_orderOf 4 (some .int), Cond.methodLink RX3 234 yX3_mix, Cond.instanceMethod yX3_mix, Cond.selects RX3 yX3_mix yX3_mix, Cond.code yX3_mix cX3_mix 3 none, Cond.constantLong RX3 229 (31), Cond.fieldLink RX3 231 "BirthStreetModel" "h" "J"]
def wsX3_mixHouse : List Cond := .code yX3_mixHouse cX3_mixHouse 3 none :: ((wsX3_mixHouse_r1 ++ wsX3_mixHouse_r2) ++ wsX30)
def wsX3_digest_r1 : List Cond := [Cond.constantLong RX3 238 (1033), Cond.fieldLink RX3 231 "BirthStreetModel" "h" "J", Cond.fieldLink RX3 82 "BirthStreetModel" "houses" "I", Cond.fieldLink RX3 66 "BirthStreetModel" "pageLength" "I", Cond.fieldLink RX3 34 "BirthStreetModel" "page" "[B", Cond.methodLink RX3 240 yX3_mixHouse, Cond.instanceMethod yX3_mixHouse, Cond.selects RX3 yX3_mixHouse yX3_mixHouse, Cond.initialized RX3, Cond.code yX3_mixHouse cX3_mixHouse 3 none, Cond.fieldLink RX3 88 "BirthStreetModel" "today" "I", Cond.methodLink RX3 125 yX3_houseNow, Cond.instanceMethod yX3_houseNow, Cond.selects RX3 yX3_houseNow yX3_houseNow, Cond.code yX3_houseNow cX3_houseNow 3 (some .int), Cond.fieldLink RX3 7 "BirthStreetModel" "kindOf" "[I", Cond.fieldLink RX3 13 "BirthStreetModel" "ageOf" "[I", Cond.fieldLink RX3 16 "BirthStreetModel" "birthsOf" "[I", Cond.methodLink RX3 107 yX3_number, Cond.instanceMethod yX3_number, Cond.selects RX3 yX3_number yX3_number, Cond.code yX3_number cX3_number 2 (some .int), Cond.methodLink RX3 100 yX3_numberBy, Cond.instanceMethod yX3_numberBy]
def wsX3_digest_r2 : List Cond := [Cond.selects RX3 yX3_numberBy yX3_numberBy, Cond.code yX3_numberBy cX3_numberBy 3 (some .int), Cond.methodLink RX3 119 yX3_owes, Cond.instanceMethod yX3_owes, Cond.selects RX3 yX3_owes yX3_owes, Cond.code yX3_owes cX3_owes 4 (some .int), Cond.fieldLink RX3 94 "BirthStreetModel" "debts" "I", Cond.fieldLink RX3 25 "BirthStreetModel" "debtNumber" "[I", Cond.fieldLink RX3 22 "BirthStreetModel" "debtMuch" "[I", Cond.methodLink RX3 116 yX3_houseOf, Cond.instanceMethod yX3_houseOf, Cond.selects RX3 yX3_houseOf yX3_houseOf, Cond.code yX3_houseOf cX3_houseOf 5 (some .int), Cond.methodLink RX3 113 yX3_numberOn, Cond.instanceMethod yX3_numberOn, Cond.selects RX3 yX3_numberOn yX3_numberOn, Cond.code yX3_numberOn cX3_numberOn 3 (some .int), Cond.fieldLink RX3 19 "BirthStreetModel" "ageThen" "[I", Cond.methodLink RX3 110 yX3_orderOf, Cond.instanceMethod yX3_orderOf, Cond.selects RX3 yX3_orderOf yX3_orderOf, Cond.code yX3_orderOf cX3_orderOf 4 (some .int), Cond.methodLink RX3 234 yX3_mix, Cond.instanceMethod yX3_mix]
def wsX3_digest_r3 : List Cond := [Cond.selects RX3 yX3_mix yX3_mix, Cond.code yX3_mix cX3_mix 3 none, Cond.constantLong RX3 229 (31), Cond.methodLink RX3 141 yX3_walkNow, Cond.instanceMethod yX3_walkNow, Cond.selects RX3 yX3_walkNow yX3_walkNow, Cond.code yX3_walkNow cX3_walkNow 5 (some .int), Cond.methodLink RX3 164 yX3_cheapNow, Cond.instanceMethod yX3_cheapNow, Cond.selects RX3 yX3_cheapNow yX3_cheapNow, Cond.code yX3_cheapNow cX3_cheapNow 6 (some .int), Cond.methodLink RX3 155 yX3_save, Cond.instanceMethod yX3_save, Cond.selects RX3 yX3_save yX3_save, Cond.code yX3_save cX3_save 2 none, Cond.fieldLink RX3 38 "BirthStreetModel" "savedAge" "[I", Cond.methodLink RX3 158 yX3_size, Cond.static yX3_size, Cond.code yX3_size cX3_size 3 (some .int), Cond.methodLink RX3 161 yX3_numbersBy, Cond.instanceMethod yX3_numbersBy, Cond.selects RX3 yX3_numbersBy yX3_numbersBy, Cond.code yX3_numbersBy cX3_numbersBy 4 (some .int), Cond.constant RX3 154 (268435456)]
def wsX3_digest_r4 : List Cond := [Cond.methodLink RX3 144 yX3_isIn, Cond.static yX3_isIn, Cond.code yX3_isIn cX3_isIn 2 (some .boolean), Cond.methodLink RX3 128 yX3_mayBirth, Cond.instanceMethod yX3_mayBirth, Cond.selects RX3 yX3_mayBirth yX3_mayBirth, Cond.code yX3_mayBirth cX3_mayBirth 2 (some .boolean), Cond.methodLink RX3 131 yX3_ageNone, Cond.instanceMethod yX3_ageNone, Cond.selects RX3 yX3_ageNone yX3_ageNone, Cond.code yX3_ageNone cX3_ageNone 2 none, Cond.methodLink RX3 104 yX3_lends, Cond.instanceMethod yX3_lends, Cond.selects RX3 yX3_lends yX3_lends, Cond.code yX3_lends cX3_lends 2 (some .boolean), Cond.methodLink RX3 148 yX3_numbersAll, Cond.instanceMethod yX3_numbersAll, Cond.selects RX3 yX3_numbersAll yX3_numbersAll, Cond.code yX3_numbersAll cX3_numbersAll 3 (some .int), Cond.methodLink RX3 151 yX3_load, Cond.instanceMethod yX3_load, Cond.selects RX3 yX3_load yX3_load, Cond.code yX3_load cX3_load 2 none, Cond.methodLink RX3 173 yX3_daysNow]
def wsX3_digest_r5 : List Cond := [Cond.instanceMethod yX3_daysNow, Cond.selects RX3 yX3_daysNow yX3_daysNow, Cond.code yX3_daysNow cX3_daysNow 6 (some .int), Cond.methodLink RX3 170 yX3_isHeard, Cond.instanceMethod yX3_isHeard, Cond.selects RX3 yX3_isHeard yX3_isHeard, Cond.code yX3_isHeard cX3_isHeard 4 (some .boolean), Cond.fieldLink RX3 97 "BirthStreetModel" "heard" "I", Cond.fieldLink RX3 28 "BirthStreetModel" "heardHouse" "[I", Cond.fieldLink RX3 31 "BirthStreetModel" "heardNumber" "[I", Cond.methodLink RX3 179 yX3_askNow, Cond.instanceMethod yX3_askNow, Cond.selects RX3 yX3_askNow yX3_askNow, Cond.code yX3_askNow cX3_askNow 5 (some .int), Cond.methodLink RX3 176 yX3_worstOf, Cond.instanceMethod yX3_worstOf, Cond.selects RX3 yX3_worstOf yX3_worstOf, Cond.code yX3_worstOf cX3_worstOf 6 (some .int), Cond.methodLink RX3 226 yX3_howMany, Cond.instanceMethod yX3_howMany, Cond.selects RX3 yX3_howMany yX3_howMany, Cond.code yX3_howMany cX3_howMany 2 (some .int), Cond.fieldLink RX3 91 "BirthStreetModel" "births" "I", Cond.fieldLink RX3 85 "BirthStreetModel" "streets" "I"]
def wsX3_digest_r6 : List Cond := [Cond.methodLink RX3 220 yX3_unlike, Cond.instanceMethod yX3_unlike, Cond.selects RX3 yX3_unlike yX3_unlike, Cond.code yX3_unlike cX3_unlike 3 (some .int), Cond.methodLink RX3 223 yX3_owesAll, Cond.instanceMethod yX3_owesAll, Cond.selects RX3 yX3_owesAll yX3_owesAll, Cond.code yX3_owesAll cX3_owesAll 3 (some .int)]
def wsX3_digest : List Cond := .code yX3_digest cX3_digest 2 (some .long) :: ((wsX3_digest_r1 ++ (wsX3_digest_r2 ++ (wsX3_digest_r3 ++ (wsX3_digest_r4 ++ (wsX3_digest_r5 ++ wsX3_digest_r6))))) ++ wsX30)
def wsJ9_abs_0f7a4 : List Cond := .code yJ9_abs_0f7a4 cJ9_abs_0f7a4 1 (some .int) :: ([])
def wsJ9_max_7cf53 : List Cond := .code yJ9_max_7cf53 cJ9_max_7cf53 2 (some .int) :: ([])
def wsL_law_r1 : List Cond := [Cond.classLink RL 7 RX2, Cond.instantiable RX2 11, Cond.initialized RX2, Cond.classLink RL 10 RX3, Cond.instantiable RX3 32, Cond.initialized RX3, Cond.methodLink RL 9 yX2_init, Cond.instanceMethod yX2_init, Cond.code yX2_init cX2_init 1 none, Cond.methodLink RX2 3 objectInit, Cond.instanceMethod objectInit, Cond.code objectInit ⟨#[0xb1]⟩ 1 none, Cond.classLink RX2 9 RX1, Cond.instantiable RX1 1, Cond.initialized RX1, Cond.fieldLink RX2 14 "BirthStreet" "page" "LBirthStreet$Row;", Cond.fieldLink RX2 18 "BirthStreet" "letters" "I", Cond.fieldLink RX2 22 "BirthStreet" "houses" "I", Cond.fieldLink RX2 25 "BirthStreet" "streetsRead" "I", Cond.fieldLink RX2 28 "BirthStreet" "kinds" "LBirthStreet$Row;", Cond.classLink RX2 31 RX0, Cond.instantiable RX0 11, Cond.initialized RX0, Cond.fieldLink RX2 34 "BirthStreet" "now" "LBirthStreet$Moment;"]
def wsL_law_r2 : List Cond := [Cond.fieldLink RX2 38 "BirthStreet" "kept" "LBirthStreet$Moment;", Cond.fieldLink RX2 41 "BirthStreet" "isKept" "Z", Cond.fieldLink RX2 45 "BirthStreet" "wouldBe" "LBirthStreet$Row;", Cond.fieldLink RX2 48 "BirthStreet" "possible" "LBirthStreet$Row;", Cond.fieldLink RX2 51 "BirthStreet" "tally" "LBirthStreet$Row;", Cond.methodLink RX2 11 yX1_init, Cond.instanceMethod yX1_init, Cond.code yX1_init cX1_init 2 none, Cond.methodLink RX1 1 objectInit, Cond.arrayClass .int, Cond.fieldLink RX1 7 "BirthStreet$Row" "cells" "[I", Cond.instanceMethod yX0_init, Cond.code yX0_init cX0_init 1 none, Cond.methodLink RX0 3 objectInit, Cond.fieldLink RX0 9 "BirthStreet$Moment" "today" "I", Cond.fieldLink RX0 15 "BirthStreet$Moment" "births" "I", Cond.fieldLink RX0 18 "BirthStreet$Moment" "debts" "I", Cond.fieldLink RX0 21 "BirthStreet$Moment" "heard" "I", Cond.classLink RX0 24 RX1, Cond.fieldLink RX0 29 "BirthStreet$Moment" "ages" "LBirthStreet$Row;", Cond.fieldLink RX0 33 "BirthStreet$Moment" "pastAges" "LBirthStreet$Row;", Cond.fieldLink RX0 36 "BirthStreet$Moment" "birthsIn" "LBirthStreet$Row;", Cond.fieldLink RX0 39 "BirthStreet$Moment" "debtAmounts" "LBirthStreet$Row;", Cond.fieldLink RX0 42 "BirthStreet$Moment" "debtNumbers" "LBirthStreet$Row;"]
def wsL_law_r3 : List Cond := [Cond.fieldLink RX0 45 "BirthStreet$Moment" "heardHouses" "LBirthStreet$Row;", Cond.fieldLink RX0 48 "BirthStreet$Moment" "heardNumbers" "LBirthStreet$Row;", Cond.methodLink RX0 26 yX1_init, Cond.methodLink RL 12 yX3_init, Cond.instanceMethod yX3_init, Cond.code yX3_init cX3_init 1 none, Cond.methodLink RX3 1 objectInit, Cond.fieldLink RX3 7 "BirthStreetModel" "kindOf" "[I", Cond.fieldLink RX3 13 "BirthStreetModel" "ageOf" "[I", Cond.fieldLink RX3 16 "BirthStreetModel" "birthsOf" "[I", Cond.fieldLink RX3 19 "BirthStreetModel" "ageThen" "[I", Cond.fieldLink RX3 22 "BirthStreetModel" "debtMuch" "[I", Cond.fieldLink RX3 25 "BirthStreetModel" "debtNumber" "[I", Cond.fieldLink RX3 28 "BirthStreetModel" "heardHouse" "[I", Cond.fieldLink RX3 31 "BirthStreetModel" "heardNumber" "[I", Cond.arrayClass .byte, Cond.fieldLink RX3 34 "BirthStreetModel" "page" "[B", Cond.fieldLink RX3 38 "BirthStreetModel" "savedAge" "[I", Cond.fieldLink RX3 41 "BirthStreetModel" "keptAge" "[I", Cond.fieldLink RX3 44 "BirthStreetModel" "keptBirthsOf" "[I", Cond.fieldLink RX3 47 "BirthStreetModel" "keptThen" "[I", Cond.fieldLink RX3 50 "BirthStreetModel" "keptMuch" "[I", Cond.fieldLink RX3 53 "BirthStreetModel" "keptNumber" "[I", Cond.fieldLink RX3 56 "BirthStreetModel" "keptHouse" "[I"]
def wsL_law_r4 : List Cond := [Cond.fieldLink RX3 59 "BirthStreetModel" "keptHeardNumber" "[I", Cond.methodLink RL 13 yX2_letter, Cond.instanceMethod yX2_letter, Cond.selects RX2 yX2_letter yX2_letter, Cond.code yX2_letter cX2_letter 2 (some .int), Cond.methodLink RX2 54 yX1_put, Cond.instanceMethod yX1_put, Cond.selects RX1 yX1_put yX1_put, Cond.code yX1_put cX1_put 3 none, Cond.methodLink RL 17 yX3_letter, Cond.instanceMethod yX3_letter, Cond.selects RX3 yX3_letter yX3_letter, Cond.code yX3_letter cX3_letter 2 (some .int), Cond.fieldLink RX3 66 "BirthStreetModel" "pageLength" "I", Cond.methodLink RX3 62 yX3_within, Cond.static yX3_within, Cond.code yX3_within cX3_within 3 (some .boolean), Cond.methodLink RL 18 yX2_blank, Cond.instanceMethod yX2_blank, Cond.selects RX2 yX2_blank yX2_blank, Cond.code yX2_blank cX2_blank 2 (some .int), Cond.methodLink RL 22 yX3_blank, Cond.instanceMethod yX3_blank, Cond.selects RX3 yX3_blank yX3_blank]
def wsL_law_r5 : List Cond := [Cond.code yX3_blank cX3_blank 2 (some .int), Cond.methodLink RL 23 yX2_fault, Cond.instanceMethod yX2_fault, Cond.selects RX2 yX2_fault yX2_fault, Cond.code yX2_fault cX2_fault 2 (some .int), Cond.methodLink RX2 58 yX1_at, Cond.instanceMethod yX1_at, Cond.selects RX1 yX1_at yX1_at, Cond.code yX1_at cX1_at 2 (some .int), Cond.methodLink RX2 62 yX2_canStandAt, Cond.static yX2_canStandAt, Cond.code yX2_canStandAt cX2_canStandAt 2 (some .boolean), Cond.methodLink RX2 73 yX2_kindOfLetter, Cond.static yX2_kindOfLetter, Cond.code yX2_kindOfLetter cX2_kindOfLetter 2 (some .int), Cond.methodLink RX2 235 yJ0_length_8abf5, Cond.instanceMethod yJ0_length_8abf5, Cond.selects RJ0 yJ0_length_8abf5 yJ0_length_8abf5, Cond.initialized RJ0, Cond.code yJ0_length_8abf5 cJ0_length_8abf5 1 (some .int), Cond.fieldLink RJ0 9 "java/lang/String" "value" "[B", Cond.methodLink RJ0 335 yJ0_coder_7d493, Cond.instanceMethod yJ0_coder_7d493, Cond.selects RJ0 yJ0_coder_7d493 yJ0_coder_7d493]
def wsL_law_r6 : List Cond := [Cond.code yJ0_coder_7d493 cJ0_coder_7d493 1 (some .byte), Cond.fieldLink RJ0 38 "java/lang/String" "COMPACT_STRINGS" "Z", Cond.fieldLink RJ0 15 "java/lang/String" "coder" "B", Cond.methodLink RX2 240 yJ0_charAt_5068e, Cond.instanceMethod yJ0_charAt_5068e, Cond.selects RJ0 yJ0_charAt_5068e yJ0_charAt_5068e, Cond.code yJ0_charAt_5068e cJ0_charAt_5068e 2 (some .char), Cond.methodLink RJ0 492 yJ0_isLatin1_aae02, Cond.instanceMethod yJ0_isLatin1_aae02, Cond.selects RJ0 yJ0_isLatin1_aae02 yJ0_isLatin1_aae02, Cond.code yJ0_isLatin1_aae02 cJ0_isLatin1_aae02 1 (some .boolean), Cond.methodLink RJ0 495 yJ1_charAt_3b067, Cond.static yJ1_charAt_3b067, Cond.initialized RJ1, Cond.code yJ1_charAt_3b067 cJ1_charAt_3b067 2 (some .char), Cond.methodLink RJ1 9 yJ0_checkIndex_df160, Cond.static yJ0_checkIndex_df160, Cond.code yJ0_checkIndex_df160 cJ0_checkIndex_df160 2 none, Cond.fieldLink RJ0 1053 "jdk/internal/util/Preconditions" "SIOOBE_FORMATTER" "Ljava/util/function/BiFunction;", Cond.methodLink RJ0 1059 yJ3_checkIndex_8e157, Cond.static yJ3_checkIndex_8e157, Cond.initialized RJ3, Cond.code yJ3_checkIndex_8e157 cJ3_checkIndex_8e157 3 (some .int), Cond.methodLink RJ0 498 yJ2_charAt_3b067]
def wsL_law_r7 : List Cond := [Cond.static yJ2_charAt_3b067, Cond.initialized RJ2, Cond.code yJ2_charAt_3b067 cJ2_charAt_3b067 2 (some .char), Cond.methodLink RJ2 67 yJ2_checkIndex_2214a, Cond.static yJ2_checkIndex_2214a, Cond.code yJ2_checkIndex_2214a cJ2_checkIndex_2214a 2 none, Cond.methodLink RJ2 48 yJ2_length_9d52b, Cond.static yJ2_length_9d52b, Cond.code yJ2_length_9d52b cJ2_length_9d52b 1 (some .int), Cond.methodLink RJ2 414 yJ0_checkIndex_df160, Cond.methodLink RJ2 71 yJ2_getChar_3b067, Cond.static yJ2_getChar_3b067, Cond.code yJ2_getChar_3b067 cJ2_getChar_3b067 2 (some .char), Cond.fieldLink RJ2 44 "java/lang/StringUTF16" "$assertionsDisabled" "Z", Cond.fieldLink RJ2 59 "java/lang/StringUTF16" "HI_BYTE_SHIFT" "I", Cond.fieldLink RJ2 63 "java/lang/StringUTF16" "LO_BYTE_SHIFT" "I", Cond.methodLink RL 26 yX3_fault, Cond.instanceMethod yX3_fault, Cond.selects RX3 yX3_fault yX3_fault, Cond.code yX3_fault cX3_fault 1 (some .int), Cond.methodLink RX3 78 yX3_faultNow, Cond.instanceMethod yX3_faultNow, Cond.selects RX3 yX3_faultNow yX3_faultNow, Cond.code yX3_faultNow cX3_faultNow 2 (some .int)]
def wsL_law_r8 : List Cond := [Cond.methodLink RX3 74 yX3_isGood, Cond.instanceMethod yX3_isGood, Cond.selects RX3 yX3_isGood yX3_isGood, Cond.code yX3_isGood cX3_isGood 3 (some .boolean), Cond.methodLink RX3 70 yX3_kindBy, Cond.static yX3_kindBy, Cond.code yX3_kindBy cX3_kindBy 1 (some .int), Cond.methodLink RL 27 yX2_street, Cond.instanceMethod yX2_street, Cond.selects RX2 yX2_street yX2_street, Cond.code yX2_street cX2_street 4 (some .int), Cond.methodLink RX2 66 yX2_housesOnPage, Cond.instanceMethod yX2_housesOnPage, Cond.selects RX2 yX2_housesOnPage yX2_housesOnPage, Cond.code yX2_housesOnPage cX2_housesOnPage 2 (some .int), Cond.methodLink RX2 244 yX2_fault, Cond.methodLink RX2 70 yX0_startAnew, Cond.instanceMethod yX0_startAnew, Cond.selects RX0 yX0_startAnew yX0_startAnew, Cond.code yX0_startAnew cX0_startAnew 1 none, Cond.methodLink RX0 51 yX1_clear, Cond.instanceMethod yX1_clear, Cond.selects RX1 yX1_clear yX1_clear, Cond.code yX1_clear cX1_clear 2 none]
def wsL_law_r9 : List Cond := [Cond.methodLink RL 30 yX3_street, Cond.instanceMethod yX3_street, Cond.selects RX3 yX3_street yX3_street, Cond.code yX3_street cX3_street 2 (some .int), Cond.fieldLink RX3 82 "BirthStreetModel" "houses" "I", Cond.fieldLink RX3 85 "BirthStreetModel" "streets" "I", Cond.fieldLink RX3 88 "BirthStreetModel" "today" "I", Cond.fieldLink RX3 91 "BirthStreetModel" "births" "I", Cond.fieldLink RX3 94 "BirthStreetModel" "debts" "I", Cond.fieldLink RX3 97 "BirthStreetModel" "heard" "I", Cond.methodLink RL 31 yX2_about, Cond.instanceMethod yX2_about, Cond.selects RX2 yX2_about yX2_about, Cond.code yX2_about cX2_about 3 (some .int), Cond.methodLink RX2 79 yX2_isHouse, Cond.instanceMethod yX2_isHouse, Cond.selects RX2 yX2_isHouse yX2_isHouse, Cond.code yX2_isHouse cX2_isHouse 2 (some .boolean), Cond.methodLink RX2 83 yX2_numberNow, Cond.instanceMethod yX2_numberNow, Cond.selects RX2 yX2_numberNow yX2_numberNow, Cond.code yX2_numberNow cX2_numberNow 2 (some .int), Cond.methodLink RX2 247 yX2_numberAt, Cond.instanceMethod yX2_numberAt]
def wsL_law_r10 : List Cond := [Cond.selects RX2 yX2_numberAt yX2_numberAt, Cond.code yX2_numberAt cX2_numberAt 3 (some .int), Cond.methodLink RX2 156 yX2_numberOf, Cond.static yX2_numberOf, Cond.code yX2_numberOf cX2_numberOf 2 (some .int), Cond.methodLink RX2 89 yX2_owedBy, Cond.instanceMethod yX2_owedBy, Cond.selects RX2 yX2_owedBy yX2_owedBy, Cond.code yX2_owedBy cX2_owedBy 4 (some .int), Cond.methodLink RX2 132 yX2_houseWith, Cond.instanceMethod yX2_houseWith, Cond.selects RX2 yX2_houseWith yX2_houseWith, Cond.code yX2_houseWith cX2_houseWith 4 (some .int), Cond.methodLink RX2 129 yX2_numberOn, Cond.instanceMethod yX2_numberOn, Cond.selects RX2 yX2_numberOn yX2_numberOn, Cond.code yX2_numberOn cX2_numberOn 4 (some .int), Cond.methodLink RX2 118 yX2_cellOf, Cond.static yX2_cellOf, Cond.code yX2_cellOf cX2_cellOf 2 (some .int), Cond.methodLink RX2 92 yX2_turnInWalk, Cond.instanceMethod yX2_turnInWalk, Cond.selects RX2 yX2_turnInWalk yX2_turnInWalk, Cond.code yX2_turnInWalk cX2_turnInWalk 7 (some .int)]
def wsL_law_r11 : List Cond := [Cond.methodLink RL 35 yX3_about, Cond.instanceMethod yX3_about, Cond.selects RX3 yX3_about yX3_about, Cond.code yX3_about cX3_about 3 (some .int), Cond.methodLink RX3 122 yX3_isHouse, Cond.instanceMethod yX3_isHouse, Cond.selects RX3 yX3_isHouse yX3_isHouse, Cond.code yX3_isHouse cX3_isHouse 2 (some .boolean), Cond.methodLink RX3 125 yX3_houseNow, Cond.instanceMethod yX3_houseNow, Cond.selects RX3 yX3_houseNow yX3_houseNow, Cond.code yX3_houseNow cX3_houseNow 3 (some .int), Cond.methodLink RX3 107 yX3_number, Cond.instanceMethod yX3_number, Cond.selects RX3 yX3_number yX3_number, Cond.code yX3_number cX3_number 2 (some .int), Cond.methodLink RX3 100 yX3_numberBy, Cond.instanceMethod yX3_numberBy, Cond.selects RX3 yX3_numberBy yX3_numberBy, Cond.code yX3_numberBy cX3_numberBy 3 (some .int), Cond.methodLink RX3 119 yX3_owes, Cond.instanceMethod yX3_owes, Cond.selects RX3 yX3_owes yX3_owes, Cond.code yX3_owes cX3_owes 4 (some .int)]
def wsL_law_r12 : List Cond := [Cond.methodLink RX3 116 yX3_houseOf, Cond.instanceMethod yX3_houseOf, Cond.selects RX3 yX3_houseOf yX3_houseOf, Cond.code yX3_houseOf cX3_houseOf 5 (some .int), Cond.methodLink RX3 113 yX3_numberOn, Cond.instanceMethod yX3_numberOn, Cond.selects RX3 yX3_numberOn yX3_numberOn, Cond.code yX3_numberOn cX3_numberOn 3 (some .int), Cond.methodLink RX3 110 yX3_orderOf, Cond.instanceMethod yX3_orderOf, Cond.selects RX3 yX3_orderOf yX3_orderOf, Cond.code yX3_orderOf cX3_orderOf 4 (some .int), Cond.methodLink RL 36 yX2_as, Cond.instanceMethod yX2_as, Cond.selects RX2 yX2_as yX2_as, Cond.code yX2_as cX2_as 3 (some .int), Cond.methodLink RX2 96 yX2_isA, Cond.static yX2_isA, Cond.code yX2_isA cX2_isA 2 (some .boolean), Cond.methodLink RL 39 yX3_as, Cond.instanceMethod yX3_as, Cond.selects RX3 yX3_as yX3_as, Cond.code yX3_as cX3_as 4 (some .int), Cond.methodLink RL 40 yX2_birth]
def wsL_law_r13 : List Cond := [Cond.instanceMethod yX2_birth, Cond.selects RX2 yX2_birth yX2_birth, Cond.code yX2_birth cX2_birth 2 (some .int), Cond.methodLink RX2 99 yX2_bear, Cond.instanceMethod yX2_bear, Cond.selects RX2 yX2_bear yX2_bear, Cond.code yX2_bear cX2_bear 3 none, Cond.methodLink RX2 109 yX2_lendsACradle, Cond.instanceMethod yX2_lendsACradle, Cond.selects RX2 yX2_lendsACradle yX2_lendsACradle, Cond.code yX2_lendsACradle cX2_lendsACradle 2 (some .boolean), Cond.methodLink RX2 106 yX1_add, Cond.instanceMethod yX1_add, Cond.selects RX1 yX1_add yX1_add, Cond.code yX1_add cX1_add 3 none, Cond.methodLink RX1 13 yX1_at, Cond.methodLink RX1 17 yX1_put, Cond.methodLink RL 43 yX3_birth, Cond.instanceMethod yX3_birth, Cond.selects RX3 yX3_birth yX3_birth, Cond.code yX3_birth cX3_birth 2 (some .int), Cond.methodLink RX3 128 yX3_mayBirth, Cond.instanceMethod yX3_mayBirth, Cond.selects RX3 yX3_mayBirth yX3_mayBirth]
def wsL_law_r14 : List Cond := [Cond.code yX3_mayBirth cX3_mayBirth 2 (some .boolean), Cond.methodLink RX3 131 yX3_ageNone, Cond.instanceMethod yX3_ageNone, Cond.selects RX3 yX3_ageNone yX3_ageNone, Cond.code yX3_ageNone cX3_ageNone 2 none, Cond.methodLink RX3 104 yX3_lends, Cond.instanceMethod yX3_lends, Cond.selects RX3 yX3_lends yX3_lends, Cond.code yX3_lends cX3_lends 2 (some .boolean), Cond.methodLink RL 44 yX2_day, Cond.instanceMethod yX2_day, Cond.selects RX2 yX2_day yX2_day, Cond.code yX2_day cX2_day 2 (some .int), Cond.methodLink RX2 122 yX2_growOlder, Cond.instanceMethod yX2_growOlder, Cond.selects RX2 yX2_growOlder yX2_growOlder, Cond.code yX2_growOlder cX2_growOlder 3 none, Cond.methodLink RX2 159 yX2_ageNextDay, Cond.static yX2_ageNextDay, Cond.code yX2_ageNextDay cX2_ageNextDay 2 (some .int), Cond.methodLink RL 47 yX3_day, Cond.instanceMethod yX3_day, Cond.selects RX3 yX3_day yX3_day, Cond.code yX3_day cX3_day 2 (some .int)]
def wsL_law_r15 : List Cond := [Cond.methodLink RX3 135 yX3_ageMore, Cond.instanceMethod yX3_ageMore, Cond.selects RX3 yX3_ageMore yX3_ageMore, Cond.code yX3_ageMore cX3_ageMore 2 none, Cond.methodLink RL 48 yX2_then, Cond.instanceMethod yX2_then, Cond.selects RX2 yX2_then yX2_then, Cond.code yX2_then cX2_then 3 (some .int), Cond.methodLink RX2 126 yX2_isDay, Cond.instanceMethod yX2_isDay, Cond.selects RX2 yX2_isDay yX2_isDay, Cond.code yX2_isDay cX2_isDay 2 (some .boolean), Cond.methodLink RL 51 yX3_then, Cond.instanceMethod yX3_then, Cond.selects RX3 yX3_then yX3_then, Cond.code yX3_then cX3_then 3 (some .int), Cond.methodLink RX3 138 yX3_isDay, Cond.instanceMethod yX3_isDay, Cond.selects RX3 yX3_isDay yX3_isDay, Cond.code yX3_isDay cX3_isDay 2 (some .boolean), Cond.methodLink RL 52 yX2_goesTo, Cond.instanceMethod yX2_goesTo, Cond.selects RX2 yX2_goesTo yX2_goesTo, Cond.code yX2_goesTo cX2_goesTo 3 (some .int)]
def wsL_law_r16 : List Cond := [Cond.methodLink RL 55 yX3_goesTo, Cond.instanceMethod yX3_goesTo, Cond.selects RX3 yX3_goesTo yX3_goesTo, Cond.code yX3_goesTo cX3_goesTo 3 (some .int), Cond.methodLink RL 56 yX2_walk, Cond.instanceMethod yX2_walk, Cond.selects RX2 yX2_walk yX2_walk, Cond.code yX2_walk cX2_walk 1 (some .int), Cond.methodLink RX2 135 yX2_lengthOfWalk, Cond.instanceMethod yX2_lengthOfWalk, Cond.selects RX2 yX2_lengthOfWalk yX2_lengthOfWalk, Cond.code yX2_lengthOfWalk cX2_lengthOfWalk 6 (some .int), Cond.methodLink RX2 253 Lib.Math.abs.name, Cond.static Lib.Math.abs.name, Cond.initialized "java/lang/Math", Cond.code Lib.Math.abs.name Lib.Math.abs.code 1 (some .int), Cond.methodLink RX2 250 yX2_houseOfTurn, Cond.instanceMethod yX2_houseOfTurn, Cond.selects RX2 yX2_houseOfTurn yX2_houseOfTurn, Cond.code yX2_houseOfTurn cX2_houseOfTurn 4 (some .int), Cond.methodLink RL 59 yX3_walk, Cond.instanceMethod yX3_walk, Cond.selects RX3 yX3_walk yX3_walk, Cond.code yX3_walk cX3_walk 1 (some .int)]
def wsL_law_r17 : List Cond := [Cond.methodLink RX3 141 yX3_walkNow, Cond.instanceMethod yX3_walkNow, Cond.selects RX3 yX3_walkNow yX3_walkNow, Cond.code yX3_walkNow cX3_walkNow 5 (some .int), Cond.methodLink RL 60 yX2_debt, Cond.instanceMethod yX2_debt, Cond.selects RX2 yX2_debt yX2_debt, Cond.code yX2_debt cX2_debt 3 (some .int), Cond.methodLink RL 63 yX3_debt, Cond.instanceMethod yX3_debt, Cond.selects RX3 yX3_debt yX3_debt, Cond.code yX3_debt cX3_debt 3 (some .int), Cond.methodLink RL 64 yX2_pay, Cond.instanceMethod yX2_pay, Cond.selects RX2 yX2_pay yX2_pay, Cond.code yX2_pay cX2_pay 3 (some .int), Cond.methodLink RL 67 yX3_pay, Cond.instanceMethod yX3_pay, Cond.selects RX3 yX3_pay yX3_pay, Cond.code yX3_pay cX3_pay 3 (some .int), Cond.methodLink RL 68 yX2_cheap, Cond.instanceMethod yX2_cheap, Cond.selects RX2 yX2_cheap yX2_cheap, Cond.code yX2_cheap cX2_cheap 4 (some .int)]
def wsL_law_r18 : List Cond := [Cond.methodLink RX2 148 yX2_cheapestSet, Cond.instanceMethod yX2_cheapestSet, Cond.selects RX2 yX2_cheapestSet yX2_cheapestSet, Cond.code yX2_cheapestSet cX2_cheapestSet 5 (some .int), Cond.methodLink RX2 151 yJ6_bitCount_0f7a4, Cond.static yJ6_bitCount_0f7a4, Cond.initialized RJ6, Cond.code yJ6_bitCount_0f7a4 cJ6_bitCount_0f7a4 1 (some .int), Cond.constant RJ6 265 (1431655765), Cond.constant RJ6 266 (858993459), Cond.constant RJ6 267 (252645135), Cond.methodLink RX2 258 yX2_mayAllBear, Cond.instanceMethod yX2_mayAllBear, Cond.selects RX2 yX2_mayAllBear yX2_mayAllBear, Cond.code yX2_mayAllBear cX2_mayAllBear 3 (some .boolean), Cond.methodLink RX2 264 yX2_isIn, Cond.static yX2_isIn, Cond.code yX2_isIn cX2_isIn 2 (some .boolean), Cond.methodLink RX2 261 yX2_numbersBy, Cond.instanceMethod yX2_numbersBy, Cond.selects RX2 yX2_numbersBy yX2_numbersBy, Cond.code yX2_numbersBy cX2_numbersBy 3 (some .int), Cond.methodLink RX2 180 yX1_take, Cond.instanceMethod yX1_take]
def wsL_law_r19 : List Cond := [Cond.selects RX1 yX1_take yX1_take, Cond.code yX1_take cX1_take 3 none, Cond.methodLink RX2 192 yX2_allNumbers, Cond.instanceMethod yX2_allNumbers, Cond.selects RX2 yX2_allNumbers yX2_allNumbers, Cond.code yX2_allNumbers cX2_allNumbers 4 (some .int), Cond.methodLink RL 71 yX3_cheap, Cond.instanceMethod yX3_cheap, Cond.selects RX3 yX3_cheap yX3_cheap, Cond.code yX3_cheap cX3_cheap 3 (some .int), Cond.methodLink RX3 164 yX3_cheapNow, Cond.instanceMethod yX3_cheapNow, Cond.selects RX3 yX3_cheapNow yX3_cheapNow, Cond.code yX3_cheapNow cX3_cheapNow 6 (some .int), Cond.methodLink RX3 155 yX3_save, Cond.instanceMethod yX3_save, Cond.selects RX3 yX3_save yX3_save, Cond.code yX3_save cX3_save 2 none, Cond.methodLink RX3 158 yX3_size, Cond.static yX3_size, Cond.code yX3_size cX3_size 3 (some .int), Cond.methodLink RX3 161 yX3_numbersBy, Cond.instanceMethod yX3_numbersBy, Cond.selects RX3 yX3_numbersBy yX3_numbersBy]
def wsL_law_r20 : List Cond := [Cond.code yX3_numbersBy cX3_numbersBy 4 (some .int), Cond.constant RX3 154 (268435456), Cond.methodLink RX3 144 yX3_isIn, Cond.static yX3_isIn, Cond.code yX3_isIn cX3_isIn 2 (some .boolean), Cond.methodLink RX3 148 yX3_numbersAll, Cond.instanceMethod yX3_numbersAll, Cond.selects RX3 yX3_numbersAll yX3_numbersAll, Cond.code yX3_numbersAll cX3_numbersAll 3 (some .int), Cond.methodLink RX3 151 yX3_load, Cond.instanceMethod yX3_load, Cond.selects RX3 yX3_load yX3_load, Cond.code yX3_load cX3_load 2 none, Cond.methodLink RL 72 yX2_when, Cond.instanceMethod yX2_when, Cond.selects RX2 yX2_when yX2_when, Cond.code yX2_when cX2_when 6 (some .int), Cond.methodLink RL 75 yX3_when, Cond.instanceMethod yX3_when, Cond.selects RX3 yX3_when yX3_when, Cond.code yX3_when cX3_when 3 (some .int), Cond.methodLink RX3 167 yX3_whenNow, Cond.instanceMethod yX3_whenNow, Cond.selects RX3 yX3_whenNow yX3_whenNow]
def wsL_law_r21 : List Cond := [Cond.code yX3_whenNow cX3_whenNow 4 (some .int), Cond.methodLink RL 76 yX2_hear, Cond.instanceMethod yX2_hear, Cond.selects RX2 yX2_hear yX2_hear, Cond.code yX2_hear cX2_hear 3 (some .int), Cond.methodLink RL 79 yX3_hear, Cond.instanceMethod yX3_hear, Cond.selects RX3 yX3_hear yX3_hear, Cond.code yX3_hear cX3_hear 3 (some .int), Cond.methodLink RL 80 yX2_forget, Cond.instanceMethod yX2_forget, Cond.selects RX2 yX2_forget yX2_forget, Cond.code yX2_forget cX2_forget 2 (some .int), Cond.methodLink RL 83 yX3_forget, Cond.instanceMethod yX3_forget, Cond.selects RX3 yX3_forget yX3_forget, Cond.code yX3_forget cX3_forget 2 (some .int), Cond.methodLink RL 84 yX2_days, Cond.instanceMethod yX2_days, Cond.selects RX2 yX2_days yX2_days, Cond.code yX2_days cX2_days 5 (some .int), Cond.methodLink RX2 171 yX2_canHaveBeen, Cond.instanceMethod yX2_canHaveBeen, Cond.selects RX2 yX2_canHaveBeen yX2_canHaveBeen]
def wsL_law_r22 : List Cond := [Cond.code yX2_canHaveBeen cX2_canHaveBeen 3 (some .boolean), Cond.methodLink RL 87 yX3_days, Cond.instanceMethod yX3_days, Cond.selects RX3 yX3_days yX3_days, Cond.code yX3_days cX3_days 2 (some .int), Cond.methodLink RX3 173 yX3_daysNow, Cond.instanceMethod yX3_daysNow, Cond.selects RX3 yX3_daysNow yX3_daysNow, Cond.code yX3_daysNow cX3_daysNow 6 (some .int), Cond.methodLink RX3 170 yX3_isHeard, Cond.instanceMethod yX3_isHeard, Cond.selects RX3 yX3_isHeard yX3_isHeard, Cond.code yX3_isHeard cX3_isHeard 4 (some .boolean), Cond.methodLink RL 88 yX2_ask, Cond.instanceMethod yX2_ask, Cond.selects RX2 yX2_ask yX2_ask, Cond.code yX2_ask cX2_ask 5 (some .int), Cond.methodLink RX2 174 yX2_markPossibleDays, Cond.instanceMethod yX2_markPossibleDays, Cond.selects RX2 yX2_markPossibleDays yX2_markPossibleDays, Cond.code yX2_markPossibleDays cX2_markPossibleDays 4 (some .int), Cond.methodLink RX2 177 yX2_mostLeftBy, Cond.instanceMethod yX2_mostLeftBy, Cond.selects RX2 yX2_mostLeftBy yX2_mostLeftBy]
def wsL_law_r23 : List Cond := [Cond.code yX2_mostLeftBy cX2_mostLeftBy 5 (some .int), Cond.methodLink RX2 270 Lib.Math.max.name, Cond.static Lib.Math.max.name, Cond.code Lib.Math.max.name Lib.Math.max.code 2 (some .int), Cond.methodLink RX2 267 yX1_clear, Cond.methodLink RL 91 yX3_ask, Cond.instanceMethod yX3_ask, Cond.selects RX3 yX3_ask yX3_ask, Cond.code yX3_ask cX3_ask 1 (some .int), Cond.methodLink RX3 179 yX3_askNow, Cond.instanceMethod yX3_askNow, Cond.selects RX3 yX3_askNow yX3_askNow, Cond.code yX3_askNow cX3_askNow 5 (some .int), Cond.methodLink RX3 176 yX3_worstOf, Cond.instanceMethod yX3_worstOf, Cond.selects RX3 yX3_worstOf yX3_worstOf, Cond.code yX3_worstOf cX3_worstOf 6 (some .int), Cond.methodLink RL 92 yX2_years, Cond.instanceMethod yX2_years, Cond.selects RX2 yX2_years yX2_years, Cond.code yX2_years cX2_years 7 (some .int), Cond.methodLink RX2 183 yX2_nextSeed, Cond.static yX2_nextSeed, Cond.code yX2_nextSeed cX2_nextSeed 1 (some .int)]
def wsL_law_r24 : List Cond := [Cond.constantLong RX2 273 (1103515245), Cond.constantLong RX2 275 (12345), Cond.constantLong RX2 277 (2147483648), Cond.methodLink RX2 186 yX2_drawnHouse, Cond.instanceMethod yX2_drawnHouse, Cond.selects RX2 yX2_drawnHouse yX2_drawnHouse, Cond.code yX2_drawnHouse cX2_drawnHouse 2 (some .int), Cond.constant RX2 279 (65536), Cond.methodLink RX2 189 yX2_bearIfMayBe, Cond.instanceMethod yX2_bearIfMayBe, Cond.selects RX2 yX2_bearIfMayBe yX2_bearIfMayBe, Cond.code yX2_bearIfMayBe cX2_bearIfMayBe 3 none, Cond.methodLink RL 96 yX3_years, Cond.instanceMethod yX3_years, Cond.selects RX3 yX3_years yX3_years, Cond.code yX3_years cX3_years 4 (some .int), Cond.methodLink RX3 197 yX3_yearsNow, Cond.instanceMethod yX3_yearsNow, Cond.selects RX3 yX3_yearsNow yX3_yearsNow, Cond.code yX3_yearsNow cX3_yearsNow 7 (some .int), Cond.fieldLink RX3 184 "BirthStreetModel" "seedNow" "J", Cond.methodLink RX3 194 yX3_draw, Cond.instanceMethod yX3_draw, Cond.selects RX3 yX3_draw yX3_draw]
def wsL_law_r25 : List Cond := [Cond.code yX3_draw cX3_draw 2 (some .int), Cond.constantLong RX3 182 (1103515245), Cond.constantLong RX3 188 (12345), Cond.constantLong RX3 190 (2147483647), Cond.constantLong RX3 192 (65536), Cond.methodLink RL 97 yX2_image, Cond.instanceMethod yX2_image, Cond.selects RX2 yX2_image yX2_image, Cond.code yX2_image cX2_image 1 (some .int), Cond.methodLink RX2 195 yX0_take, Cond.instanceMethod yX0_take, Cond.selects RX0 yX0_take yX0_take, Cond.code yX0_take cX0_take 2 none, Cond.methodLink RX0 54 yX1_take, Cond.methodLink RL 100 yX3_image, Cond.instanceMethod yX3_image, Cond.selects RX3 yX3_image yX3_image, Cond.code yX3_image cX3_image 2 (some .int), Cond.fieldLink RX3 201 "BirthStreetModel" "isKept" "Z", Cond.fieldLink RX3 205 "BirthStreetModel" "keptStreet" "I", Cond.fieldLink RX3 208 "BirthStreetModel" "keptToday" "I", Cond.fieldLink RX3 211 "BirthStreetModel" "keptBirths" "I", Cond.fieldLink RX3 214 "BirthStreetModel" "keptDebts" "I", Cond.fieldLink RX3 217 "BirthStreetModel" "keptHeard" "I"]
def wsL_law_r26 : List Cond := [Cond.methodLink RL 101 yX2_restore, Cond.instanceMethod yX2_restore, Cond.selects RX2 yX2_restore yX2_restore, Cond.code yX2_restore cX2_restore 1 (some .int), Cond.methodLink RL 104 yX3_restore, Cond.instanceMethod yX3_restore, Cond.selects RX3 yX3_restore yX3_restore, Cond.code yX3_restore cX3_restore 2 (some .int), Cond.methodLink RL 105 yX2_count, Cond.instanceMethod yX2_count, Cond.selects RX2 yX2_count yX2_count, Cond.code yX2_count cX2_count 2 (some .int), Cond.methodLink RX2 198 yX2_unlikeNumbers, Cond.instanceMethod yX2_unlikeNumbers, Cond.selects RX2 yX2_unlikeNumbers yX2_unlikeNumbers, Cond.code yX2_unlikeNumbers cX2_unlikeNumbers 3 (some .int), Cond.methodLink RX2 201 yX2_owedByAll, Cond.instanceMethod yX2_owedByAll, Cond.selects RX2 yX2_owedByAll yX2_owedByAll, Cond.code yX2_owedByAll cX2_owedByAll 3 (some .int), Cond.methodLink RL 108 yX3_count, Cond.instanceMethod yX3_count, Cond.selects RX3 yX3_count yX3_count, Cond.code yX3_count cX3_count 2 (some .int)]
def wsL_law_r27 : List Cond := [Cond.methodLink RX3 226 yX3_howMany, Cond.instanceMethod yX3_howMany, Cond.selects RX3 yX3_howMany yX3_howMany, Cond.code yX3_howMany cX3_howMany 2 (some .int), Cond.methodLink RX3 220 yX3_unlike, Cond.instanceMethod yX3_unlike, Cond.selects RX3 yX3_unlike yX3_unlike, Cond.code yX3_unlike cX3_unlike 3 (some .int), Cond.methodLink RX3 223 yX3_owesAll, Cond.instanceMethod yX3_owesAll, Cond.selects RX3 yX3_owesAll yX3_owesAll, Cond.code yX3_owesAll cX3_owesAll 3 (some .int), Cond.methodLink RL 109 yX2_digest, Cond.instanceMethod yX2_digest, Cond.selects RX2 yX2_digest yX2_digest, Cond.code yX2_digest cX2_digest 4 (some .long), Cond.constantLong RX2 204 (1033), Cond.methodLink RX2 206 yX2_withHouse, Cond.instanceMethod yX2_withHouse, Cond.selects RX2 yX2_withHouse yX2_withHouse, Cond.code yX2_withHouse cX2_withHouse 7 (some .long), Cond.methodLink RX2 228 yX2_about, Cond.methodLink RX2 213 yX2_with, Cond.static yX2_with]
def wsL_law_r28 : List Cond := [Cond.code yX2_with cX2_with 3 (some .long), Cond.constantLong RX2 231 (31), Cond.methodLink RX2 210 yX2_walk, Cond.methodLink RX2 216 yX2_cheap, Cond.methodLink RX2 219 yX2_days, Cond.methodLink RX2 222 yX2_ask, Cond.methodLink RX2 225 yX2_count, Cond.methodLink RL 113 yX3_digest, Cond.instanceMethod yX3_digest, Cond.selects RX3 yX3_digest yX3_digest, Cond.code yX3_digest cX3_digest 2 (some .long), Cond.constantLong RX3 238 (1033), Cond.fieldLink RX3 231 "BirthStreetModel" "h" "J", Cond.methodLink RX3 240 yX3_mixHouse, Cond.instanceMethod yX3_mixHouse, Cond.selects RX3 yX3_mixHouse yX3_mixHouse, Cond.code yX3_mixHouse cX3_mixHouse 3 none, Cond.methodLink RX3 234 yX3_mix, Cond.instanceMethod yX3_mix, Cond.selects RX3 yX3_mix yX3_mix, Cond.code yX3_mix cX3_mix 3 none, Cond.constantLong RX3 229 (31)]
def wsL_law : List Cond := (wsL_law_r1 ++ (wsL_law_r2 ++ (wsL_law_r3 ++ (wsL_law_r4 ++ (wsL_law_r5 ++ (wsL_law_r6 ++ (wsL_law_r7 ++ (wsL_law_r8 ++ (wsL_law_r9 ++ (wsL_law_r10 ++ (wsL_law_r11 ++ (wsL_law_r12 ++ (wsL_law_r13 ++ (wsL_law_r14 ++ (wsL_law_r15 ++ (wsL_law_r16 ++ (wsL_law_r17 ++ (wsL_law_r18 ++ (wsL_law_r19 ++ (wsL_law_r20 ++ (wsL_law_r21 ++ (wsL_law_r22 ++ (wsL_law_r23 ++ (wsL_law_r24 ++ (wsL_law_r25 ++ (wsL_law_r26 ++ (wsL_law_r27 ++ wsL_law_r28))))))))))))))))))))))))))) ++ wsX20 ++ wsX30 ++ wsX10 ++ wsX00 ++ ([] : List Cond)
set_option maxRecDepth 20000 in
theorem wsL_law_in : ∀ w ∈ wsL_law, w ∈ lw_tbl := fun w h => (goodIn_p wsL_law [74, 77, 82, 93, 514, 179, 183, 616, 619, 187, 623, 191, 195, 198, 201, 206, 210, 216, 220, 223, 226, 231, 234, 237, 240, 244, 627, 631, 635, 638, 255, 259, 264, 268, 642, 272, 276, 280, 284, 287, 291, 295, 299, 302, 306, 646, 650, 654, 658, 662, 666, 670, 674, 678, 310, 313, 682, 317, 321, 325, 329, 686, 690, 694, 698, 335, 339, 342, 702, 706, 346, 350, 710, 714, 354, 718, 358, 362, 369, 366, 722, 726, 373, 730, 377, 734, 381, 385, 388, 395, 398, 402, 406, 410, 738, 742, 746, 749, 753, 756, 760, 764, 414, 769, 773, 418, 777, 422, 781, 426, 430, 785, 789, 793, 434, 438, 442, 446, 797, 801, 805, 450, 453, 460, 465, 809, 813, 817, 469, 473, 825, 478, 829, 482, 486, 490, 833, 837, 841, 845, 494, 499, 503, 849, 854, 858] (by decide +kernel) (by decide +kernel) w h).1
theorem inlX0 : ∀ w ∈ wsX00, w ∈ wsL_law := fun _ h => List.mem_append_left _ (List.mem_append_right _ h)
theorem inX0 : ∀ w ∈ wsX00, w ∈ lw_tbl := fun w h => wsL_law_in w (inlX0 w h)
theorem inlX1 : ∀ w ∈ wsX10, w ∈ wsL_law := fun _ h => List.mem_append_left _ (List.mem_append_left _ (List.mem_append_right _ h))
theorem inX1 : ∀ w ∈ wsX10, w ∈ lw_tbl := fun w h => wsL_law_in w (inlX1 w h)
theorem inlX2 : ∀ w ∈ wsX20, w ∈ wsL_law := fun _ h => List.mem_append_left _ (List.mem_append_left _ (List.mem_append_left _ (List.mem_append_left _ (List.mem_append_right _ h))))
theorem inX2 : ∀ w ∈ wsX20, w ∈ lw_tbl := fun w h => wsL_law_in w (inlX2 w h)
theorem inlX3 : ∀ w ∈ wsX30, w ∈ wsL_law := fun _ h => List.mem_append_left _ (List.mem_append_left _ (List.mem_append_left _ (List.mem_append_right _ h)))
theorem inX3 : ∀ w ∈ wsX30, w ∈ lw_tbl := fun w h => wsL_law_in w (inlX3 w h)
theorem inJ6 : ∀ w ∈ wsJ60, w ∈ lw_tbl := by decide +kernel
theorem inJ9 : ∀ w ∈ wsJ90, w ∈ lw_tbl := by decide +kernel
theorem inJ0 : ∀ w ∈ wsJ00, w ∈ lw_tbl := by decide +kernel
theorem inJ1 : ∀ w ∈ wsJ10, w ∈ lw_tbl := by decide +kernel
theorem inJ2 : ∀ w ∈ wsJ20, w ∈ lw_tbl := by decide +kernel
theorem inJ3 : ∀ w ∈ wsJ30, w ∈ lw_tbl := by decide +kernel
set_option maxRecDepth 20000 in
theorem ggX0_init_X1_init : GoodIn wsX0_init wsX1_init := goodIn_r _ [20, 21, 2, 3, 22, 23, 35] (by decide +kernel) (by decide +kernel)
set_option maxRecDepth 20000 in
theorem gX0_init_X1_init : GoodIn wsX0_init (wsX1_init) := ggX0_init_X1_init
theorem dX0_init_0 : decode cX0_init 0 = .ok (.aload_n 0, 1) := by decide +kernel
theorem dX0_init_1 : decode cX0_init 1 = .ok (.invokespecial 3, 3) := by decide +kernel
theorem dX0_init_4 : decode cX0_init 4 = .ok (.aload_n 0, 1) := by decide +kernel
theorem dX0_init_5 : decode cX0_init 5 = .ok (.iconst 0, 1) := by decide +kernel
theorem dX0_init_6 : decode cX0_init 6 = .ok (.putfield 9, 3) := by decide +kernel
theorem dX0_init_9 : decode cX0_init 9 = .ok (.aload_n 0, 1) := by decide +kernel
theorem dX0_init_10 : decode cX0_init 10 = .ok (.iconst 0, 1) := by decide +kernel
theorem dX0_init_11 : decode cX0_init 11 = .ok (.putfield 15, 3) := by decide +kernel
theorem dX0_init_14 : decode cX0_init 14 = .ok (.aload_n 0, 1) := by decide +kernel
theorem dX0_init_15 : decode cX0_init 15 = .ok (.iconst 0, 1) := by decide +kernel
theorem dX0_init_16 : decode cX0_init 16 = .ok (.putfield 18, 3) := by decide +kernel
theorem dX0_init_19 : decode cX0_init 19 = .ok (.aload_n 0, 1) := by decide +kernel
theorem dX0_init_20 : decode cX0_init 20 = .ok (.iconst 0, 1) := by decide +kernel
theorem dX0_init_21 : decode cX0_init 21 = .ok (.putfield 21, 3) := by decide +kernel
theorem dX0_init_24 : decode cX0_init 24 = .ok (.aload_n 0, 1) := by decide +kernel
theorem dX0_init_25 : decode cX0_init 25 = .ok (.new 24, 3) := by decide +kernel
theorem dX0_init_28 : decode cX0_init 28 = .ok (.dup, 1) := by decide +kernel
theorem dX0_init_29 : decode cX0_init 29 = .ok (.bipush 6, 2) := by decide +kernel
theorem dX0_init_31 : decode cX0_init 31 = .ok (.invokespecial 26, 3) := by decide +kernel
theorem dX0_init_34 : decode cX0_init 34 = .ok (.putfield 29, 3) := by decide +kernel
theorem dX0_init_37 : decode cX0_init 37 = .ok (.aload_n 0, 1) := by decide +kernel
theorem dX0_init_38 : decode cX0_init 38 = .ok (.new 24, 3) := by decide +kernel
theorem dX0_init_41 : decode cX0_init 41 = .ok (.dup, 1) := by decide +kernel
theorem dX0_init_42 : decode cX0_init 42 = .ok (.sipush 180, 3) := by decide +kernel
theorem dX0_init_45 : decode cX0_init 45 = .ok (.invokespecial 26, 3) := by decide +kernel
theorem dX0_init_48 : decode cX0_init 48 = .ok (.putfield 33, 3) := by decide +kernel
theorem dX0_init_51 : decode cX0_init 51 = .ok (.aload_n 0, 1) := by decide +kernel
theorem dX0_init_52 : decode cX0_init 52 = .ok (.new 24, 3) := by decide +kernel
theorem dX0_init_55 : decode cX0_init 55 = .ok (.dup, 1) := by decide +kernel
theorem dX0_init_56 : decode cX0_init 56 = .ok (.bipush 6, 2) := by decide +kernel
theorem dX0_init_58 : decode cX0_init 58 = .ok (.invokespecial 26, 3) := by decide +kernel
theorem dX0_init_61 : decode cX0_init 61 = .ok (.putfield 36, 3) := by decide +kernel
theorem dX0_init_64 : decode cX0_init 64 = .ok (.aload_n 0, 1) := by decide +kernel
theorem dX0_init_65 : decode cX0_init 65 = .ok (.new 24, 3) := by decide +kernel
theorem dX0_init_68 : decode cX0_init 68 = .ok (.dup, 1) := by decide +kernel
theorem dX0_init_69 : decode cX0_init 69 = .ok (.bipush 6, 2) := by decide +kernel
theorem dX0_init_71 : decode cX0_init 71 = .ok (.invokespecial 26, 3) := by decide +kernel
theorem dX0_init_74 : decode cX0_init 74 = .ok (.putfield 39, 3) := by decide +kernel
theorem dX0_init_77 : decode cX0_init 77 = .ok (.aload_n 0, 1) := by decide +kernel
theorem dX0_init_78 : decode cX0_init 78 = .ok (.new 24, 3) := by decide +kernel
theorem dX0_init_81 : decode cX0_init 81 = .ok (.dup, 1) := by decide +kernel
theorem dX0_init_82 : decode cX0_init 82 = .ok (.bipush 6, 2) := by decide +kernel
theorem dX0_init_84 : decode cX0_init 84 = .ok (.invokespecial 26, 3) := by decide +kernel
theorem dX0_init_87 : decode cX0_init 87 = .ok (.putfield 42, 3) := by decide +kernel
theorem dX0_init_90 : decode cX0_init 90 = .ok (.aload_n 0, 1) := by decide +kernel
theorem dX0_init_91 : decode cX0_init 91 = .ok (.new 24, 3) := by decide +kernel
theorem dX0_init_94 : decode cX0_init 94 = .ok (.dup, 1) := by decide +kernel
theorem dX0_init_95 : decode cX0_init 95 = .ok (.bipush 6, 2) := by decide +kernel
theorem dX0_init_97 : decode cX0_init 97 = .ok (.invokespecial 26, 3) := by decide +kernel
theorem dX0_init_100 : decode cX0_init 100 = .ok (.putfield 45, 3) := by decide +kernel
theorem dX0_init_103 : decode cX0_init 103 = .ok (.aload_n 0, 1) := by decide +kernel
theorem dX0_init_104 : decode cX0_init 104 = .ok (.new 24, 3) := by decide +kernel
theorem dX0_init_107 : decode cX0_init 107 = .ok (.dup, 1) := by decide +kernel
theorem dX0_init_108 : decode cX0_init 108 = .ok (.bipush 6, 2) := by decide +kernel
theorem dX0_init_110 : decode cX0_init 110 = .ok (.invokespecial 26, 3) := by decide +kernel
theorem dX0_init_113 : decode cX0_init 113 = .ok (.putfield 48, 3) := by decide +kernel
theorem dX0_init_116 : decode cX0_init 116 = .ok (.return_, 1) := by decide +kernel
set_option maxRecDepth 20000 in
theorem ggX0_startAnew_X1_clear : GoodIn wsX0_startAnew wsX1_clear := goodIn_r _ [10, 11, 23] (by decide +kernel) (by decide +kernel)
set_option maxRecDepth 20000 in
theorem gX0_startAnew_X1_clear : GoodIn wsX0_startAnew (wsV RX0 51 RX1 yX1_clear wsX1_clear) := goodIn_app (goodIn_of _ (by decide +kernel)) ggX0_startAnew_X1_clear
theorem dX0_startAnew_0 : decode cX0_startAnew 0 = .ok (.aload_n 0, 1) := by decide +kernel
theorem dX0_startAnew_1 : decode cX0_startAnew 1 = .ok (.iconst 0, 1) := by decide +kernel
theorem dX0_startAnew_2 : decode cX0_startAnew 2 = .ok (.putfield 9, 3) := by decide +kernel
theorem dX0_startAnew_5 : decode cX0_startAnew 5 = .ok (.aload_n 0, 1) := by decide +kernel
theorem dX0_startAnew_6 : decode cX0_startAnew 6 = .ok (.iconst 0, 1) := by decide +kernel
theorem dX0_startAnew_7 : decode cX0_startAnew 7 = .ok (.putfield 15, 3) := by decide +kernel
theorem dX0_startAnew_10 : decode cX0_startAnew 10 = .ok (.aload_n 0, 1) := by decide +kernel
theorem dX0_startAnew_11 : decode cX0_startAnew 11 = .ok (.iconst 0, 1) := by decide +kernel
theorem dX0_startAnew_12 : decode cX0_startAnew 12 = .ok (.putfield 18, 3) := by decide +kernel
theorem dX0_startAnew_15 : decode cX0_startAnew 15 = .ok (.aload_n 0, 1) := by decide +kernel
theorem dX0_startAnew_16 : decode cX0_startAnew 16 = .ok (.iconst 0, 1) := by decide +kernel
theorem dX0_startAnew_17 : decode cX0_startAnew 17 = .ok (.putfield 21, 3) := by decide +kernel
theorem dX0_startAnew_20 : decode cX0_startAnew 20 = .ok (.aload_n 0, 1) := by decide +kernel
theorem dX0_startAnew_21 : decode cX0_startAnew 21 = .ok (.getfield 36, 3) := by decide +kernel
theorem dX0_startAnew_24 : decode cX0_startAnew 24 = .ok (.invokevirtual 51, 3) := by decide +kernel
theorem dX0_startAnew_27 : decode cX0_startAnew 27 = .ok (.return_, 1) := by decide +kernel
set_option maxRecDepth 20000 in
theorem ggX0_take_X1_take : GoodIn wsX0_take wsX1_take := goodIn_r _ [16, 17, 18, 19, 20, 15, 21, 33] (by decide +kernel) (by decide +kernel)
set_option maxRecDepth 20000 in
theorem gX0_take_X1_take : GoodIn wsX0_take (wsV RX0 54 RX1 yX1_take wsX1_take) := goodIn_app (goodIn_of _ (by decide +kernel)) ggX0_take_X1_take
theorem dX0_take_0 : decode cX0_take 0 = .ok (.aload_n 0, 1) := by decide +kernel
theorem dX0_take_1 : decode cX0_take 1 = .ok (.aload_n 1, 1) := by decide +kernel
theorem dX0_take_2 : decode cX0_take 2 = .ok (.getfield 9, 3) := by decide +kernel
theorem dX0_take_5 : decode cX0_take 5 = .ok (.putfield 9, 3) := by decide +kernel
theorem dX0_take_8 : decode cX0_take 8 = .ok (.aload_n 0, 1) := by decide +kernel
theorem dX0_take_9 : decode cX0_take 9 = .ok (.aload_n 1, 1) := by decide +kernel
theorem dX0_take_10 : decode cX0_take 10 = .ok (.getfield 15, 3) := by decide +kernel
theorem dX0_take_13 : decode cX0_take 13 = .ok (.putfield 15, 3) := by decide +kernel
theorem dX0_take_16 : decode cX0_take 16 = .ok (.aload_n 0, 1) := by decide +kernel
theorem dX0_take_17 : decode cX0_take 17 = .ok (.aload_n 1, 1) := by decide +kernel
theorem dX0_take_18 : decode cX0_take 18 = .ok (.getfield 18, 3) := by decide +kernel
theorem dX0_take_21 : decode cX0_take 21 = .ok (.putfield 18, 3) := by decide +kernel
theorem dX0_take_24 : decode cX0_take 24 = .ok (.aload_n 0, 1) := by decide +kernel
theorem dX0_take_25 : decode cX0_take 25 = .ok (.aload_n 1, 1) := by decide +kernel
theorem dX0_take_26 : decode cX0_take 26 = .ok (.getfield 21, 3) := by decide +kernel
theorem dX0_take_29 : decode cX0_take 29 = .ok (.putfield 21, 3) := by decide +kernel
theorem dX0_take_32 : decode cX0_take 32 = .ok (.aload_n 0, 1) := by decide +kernel
theorem dX0_take_33 : decode cX0_take 33 = .ok (.getfield 29, 3) := by decide +kernel
theorem dX0_take_36 : decode cX0_take 36 = .ok (.aload_n 1, 1) := by decide +kernel
theorem dX0_take_37 : decode cX0_take 37 = .ok (.getfield 29, 3) := by decide +kernel
theorem dX0_take_40 : decode cX0_take 40 = .ok (.invokevirtual 54, 3) := by decide +kernel
theorem dX0_take_43 : decode cX0_take 43 = .ok (.aload_n 0, 1) := by decide +kernel
theorem dX0_take_44 : decode cX0_take 44 = .ok (.getfield 33, 3) := by decide +kernel
theorem dX0_take_47 : decode cX0_take 47 = .ok (.aload_n 1, 1) := by decide +kernel
theorem dX0_take_48 : decode cX0_take 48 = .ok (.getfield 33, 3) := by decide +kernel
theorem dX0_take_51 : decode cX0_take 51 = .ok (.invokevirtual 54, 3) := by decide +kernel
theorem dX0_take_54 : decode cX0_take 54 = .ok (.aload_n 0, 1) := by decide +kernel
theorem dX0_take_55 : decode cX0_take 55 = .ok (.getfield 36, 3) := by decide +kernel
theorem dX0_take_58 : decode cX0_take 58 = .ok (.aload_n 1, 1) := by decide +kernel
theorem dX0_take_59 : decode cX0_take 59 = .ok (.getfield 36, 3) := by decide +kernel
theorem dX0_take_62 : decode cX0_take 62 = .ok (.invokevirtual 54, 3) := by decide +kernel
theorem dX0_take_65 : decode cX0_take 65 = .ok (.aload_n 0, 1) := by decide +kernel
theorem dX0_take_66 : decode cX0_take 66 = .ok (.getfield 39, 3) := by decide +kernel
theorem dX0_take_69 : decode cX0_take 69 = .ok (.aload_n 1, 1) := by decide +kernel
theorem dX0_take_70 : decode cX0_take 70 = .ok (.getfield 39, 3) := by decide +kernel
theorem dX0_take_73 : decode cX0_take 73 = .ok (.invokevirtual 54, 3) := by decide +kernel
theorem dX0_take_76 : decode cX0_take 76 = .ok (.aload_n 0, 1) := by decide +kernel
theorem dX0_take_77 : decode cX0_take 77 = .ok (.getfield 42, 3) := by decide +kernel
theorem dX0_take_80 : decode cX0_take 80 = .ok (.aload_n 1, 1) := by decide +kernel
theorem dX0_take_81 : decode cX0_take 81 = .ok (.getfield 42, 3) := by decide +kernel
theorem dX0_take_84 : decode cX0_take 84 = .ok (.invokevirtual 54, 3) := by decide +kernel
theorem dX0_take_87 : decode cX0_take 87 = .ok (.aload_n 0, 1) := by decide +kernel
theorem dX0_take_88 : decode cX0_take 88 = .ok (.getfield 45, 3) := by decide +kernel
theorem dX0_take_91 : decode cX0_take 91 = .ok (.aload_n 1, 1) := by decide +kernel
theorem dX0_take_92 : decode cX0_take 92 = .ok (.getfield 45, 3) := by decide +kernel
theorem dX0_take_95 : decode cX0_take 95 = .ok (.invokevirtual 54, 3) := by decide +kernel
theorem dX0_take_98 : decode cX0_take 98 = .ok (.aload_n 0, 1) := by decide +kernel
theorem dX0_take_99 : decode cX0_take 99 = .ok (.getfield 48, 3) := by decide +kernel
theorem dX0_take_102 : decode cX0_take 102 = .ok (.aload_n 1, 1) := by decide +kernel
theorem dX0_take_103 : decode cX0_take 103 = .ok (.getfield 48, 3) := by decide +kernel
theorem dX0_take_106 : decode cX0_take 106 = .ok (.invokevirtual 54, 3) := by decide +kernel
theorem dX0_take_109 : decode cX0_take 109 = .ok (.return_, 1) := by decide +kernel
theorem dX1_init_0 : decode cX1_init 0 = .ok (.aload_n 0, 1) := by decide +kernel
theorem dX1_init_1 : decode cX1_init 1 = .ok (.invokespecial 1, 3) := by decide +kernel
theorem dX1_init_4 : decode cX1_init 4 = .ok (.aload_n 0, 1) := by decide +kernel
theorem dX1_init_5 : decode cX1_init 5 = .ok (.iload_n 1, 1) := by decide +kernel
theorem dX1_init_6 : decode cX1_init 6 = .ok (.ifCond .ge 7, 3) := by decide +kernel
theorem dX1_init_9 : decode cX1_init 9 = .ok (.iconst 0, 1) := by decide +kernel
theorem dX1_init_10 : decode cX1_init 10 = .ok (.goto 4, 3) := by decide +kernel
theorem dX1_init_13 : decode cX1_init 13 = .ok (.iload_n 1, 1) := by decide +kernel
theorem dX1_init_14 : decode cX1_init 14 = .ok (.newarray .int, 2) := by decide +kernel
theorem dX1_init_16 : decode cX1_init 16 = .ok (.putfield 7, 3) := by decide +kernel
theorem dX1_init_19 : decode cX1_init 19 = .ok (.return_, 1) := by decide +kernel
theorem dX1_at_0 : decode cX1_at 0 = .ok (.iload_n 1, 1) := by decide +kernel
theorem dX1_at_1 : decode cX1_at 1 = .ok (.ifCond .lt 21, 3) := by decide +kernel
theorem dX1_at_4 : decode cX1_at 4 = .ok (.iload_n 1, 1) := by decide +kernel
theorem dX1_at_5 : decode cX1_at 5 = .ok (.aload_n 0, 1) := by decide +kernel
theorem dX1_at_6 : decode cX1_at 6 = .ok (.getfield 7, 3) := by decide +kernel
theorem dX1_at_9 : decode cX1_at 9 = .ok (.arraylength, 1) := by decide +kernel
theorem dX1_at_10 : decode cX1_at 10 = .ok (.if_icmp .ge 12, 3) := by decide +kernel
theorem dX1_at_13 : decode cX1_at 13 = .ok (.aload_n 0, 1) := by decide +kernel
theorem dX1_at_14 : decode cX1_at 14 = .ok (.getfield 7, 3) := by decide +kernel
theorem dX1_at_17 : decode cX1_at 17 = .ok (.iload_n 1, 1) := by decide +kernel
theorem dX1_at_18 : decode cX1_at 18 = .ok (.iaload, 1) := by decide +kernel
theorem dX1_at_19 : decode cX1_at 19 = .ok (.goto 4, 3) := by decide +kernel
theorem dX1_at_22 : decode cX1_at 22 = .ok (.iconst 0, 1) := by decide +kernel
theorem dX1_at_23 : decode cX1_at 23 = .ok (.ireturn, 1) := by decide +kernel
theorem dX1_put_0 : decode cX1_put 0 = .ok (.iload_n 1, 1) := by decide +kernel
theorem dX1_put_1 : decode cX1_put 1 = .ok (.ifCond .lt 19, 3) := by decide +kernel
theorem dX1_put_4 : decode cX1_put 4 = .ok (.iload_n 1, 1) := by decide +kernel
theorem dX1_put_5 : decode cX1_put 5 = .ok (.aload_n 0, 1) := by decide +kernel
theorem dX1_put_6 : decode cX1_put 6 = .ok (.getfield 7, 3) := by decide +kernel
theorem dX1_put_9 : decode cX1_put 9 = .ok (.arraylength, 1) := by decide +kernel
theorem dX1_put_10 : decode cX1_put 10 = .ok (.if_icmp .ge 10, 3) := by decide +kernel
theorem dX1_put_13 : decode cX1_put 13 = .ok (.aload_n 0, 1) := by decide +kernel
theorem dX1_put_14 : decode cX1_put 14 = .ok (.getfield 7, 3) := by decide +kernel
theorem dX1_put_17 : decode cX1_put 17 = .ok (.iload_n 1, 1) := by decide +kernel
theorem dX1_put_18 : decode cX1_put 18 = .ok (.iload_n 2, 1) := by decide +kernel
theorem dX1_put_19 : decode cX1_put 19 = .ok (.iastore, 1) := by decide +kernel
theorem dX1_put_20 : decode cX1_put 20 = .ok (.return_, 1) := by decide +kernel
set_option maxRecDepth 20000 in
theorem ggX1_add_X1_at : GoodIn wsX1_add wsX1_at := goodIn_r _ [5, 6, 11] (by decide +kernel) (by decide +kernel)
set_option maxRecDepth 20000 in
theorem gX1_add_X1_at : GoodIn wsX1_add (wsV RX1 13 RX1 yX1_at wsX1_at) := goodIn_app (goodIn_of _ (by decide +kernel)) ggX1_add_X1_at
set_option maxRecDepth 20000 in
theorem ggX1_add_X1_put : GoodIn wsX1_add wsX1_put := goodIn_r _ [10, 6, 11] (by decide +kernel) (by decide +kernel)
set_option maxRecDepth 20000 in
theorem gX1_add_X1_put : GoodIn wsX1_add (wsV RX1 17 RX1 yX1_put wsX1_put) := goodIn_app (goodIn_of _ (by decide +kernel)) ggX1_add_X1_put
theorem dX1_add_0 : decode cX1_add 0 = .ok (.aload_n 0, 1) := by decide +kernel
theorem dX1_add_1 : decode cX1_add 1 = .ok (.iload_n 1, 1) := by decide +kernel
theorem dX1_add_2 : decode cX1_add 2 = .ok (.aload_n 0, 1) := by decide +kernel
theorem dX1_add_3 : decode cX1_add 3 = .ok (.iload_n 1, 1) := by decide +kernel
theorem dX1_add_4 : decode cX1_add 4 = .ok (.invokevirtual 13, 3) := by decide +kernel
theorem dX1_add_7 : decode cX1_add 7 = .ok (.iload_n 2, 1) := by decide +kernel
theorem dX1_add_8 : decode cX1_add 8 = .ok (.iadd, 1) := by decide +kernel
theorem dX1_add_9 : decode cX1_add 9 = .ok (.invokevirtual 17, 3) := by decide +kernel
theorem dX1_add_12 : decode cX1_add 12 = .ok (.return_, 1) := by decide +kernel
theorem dX1_clear_0 : decode cX1_clear 0 = .ok (.iconst 0, 1) := by decide +kernel
theorem dX1_clear_1 : decode cX1_clear 1 = .ok (.istore_n 1, 1) := by decide +kernel
theorem dX1_clear_2 : decode cX1_clear 2 = .ok (.iload_n 1, 1) := by decide +kernel
theorem dX1_clear_3 : decode cX1_clear 3 = .ok (.aload_n 0, 1) := by decide +kernel
theorem dX1_clear_4 : decode cX1_clear 4 = .ok (.getfield 7, 3) := by decide +kernel
theorem dX1_clear_7 : decode cX1_clear 7 = .ok (.arraylength, 1) := by decide +kernel
theorem dX1_clear_8 : decode cX1_clear 8 = .ok (.if_icmp .ge 16, 3) := by decide +kernel
theorem dX1_clear_11 : decode cX1_clear 11 = .ok (.aload_n 0, 1) := by decide +kernel
theorem dX1_clear_12 : decode cX1_clear 12 = .ok (.getfield 7, 3) := by decide +kernel
theorem dX1_clear_15 : decode cX1_clear 15 = .ok (.iload_n 1, 1) := by decide +kernel
theorem dX1_clear_16 : decode cX1_clear 16 = .ok (.iconst 0, 1) := by decide +kernel
theorem dX1_clear_17 : decode cX1_clear 17 = .ok (.iastore, 1) := by decide +kernel
theorem dX1_clear_18 : decode cX1_clear 18 = .ok (.iinc 1 1, 3) := by decide +kernel
theorem dX1_clear_21 : decode cX1_clear 21 = .ok (.goto (-19), 3) := by decide +kernel
theorem dX1_clear_24 : decode cX1_clear 24 = .ok (.return_, 1) := by decide +kernel
set_option maxRecDepth 20000 in
theorem ggX1_take_X1_at : GoodIn wsX1_take wsX1_at := goodIn_r _ [6, 1, 7] (by decide +kernel) (by decide +kernel)
set_option maxRecDepth 20000 in
theorem gX1_take_X1_at : GoodIn wsX1_take (wsV RX1 13 RX1 yX1_at wsX1_at) := goodIn_app (goodIn_of _ (by decide +kernel)) ggX1_take_X1_at
theorem dX1_take_0 : decode cX1_take 0 = .ok (.iconst 0, 1) := by decide +kernel
theorem dX1_take_1 : decode cX1_take 1 = .ok (.istore_n 2, 1) := by decide +kernel
theorem dX1_take_2 : decode cX1_take 2 = .ok (.iload_n 2, 1) := by decide +kernel
theorem dX1_take_3 : decode cX1_take 3 = .ok (.aload_n 0, 1) := by decide +kernel
theorem dX1_take_4 : decode cX1_take 4 = .ok (.getfield 7, 3) := by decide +kernel
theorem dX1_take_7 : decode cX1_take 7 = .ok (.arraylength, 1) := by decide +kernel
theorem dX1_take_8 : decode cX1_take 8 = .ok (.if_icmp .ge 20, 3) := by decide +kernel
theorem dX1_take_11 : decode cX1_take 11 = .ok (.aload_n 0, 1) := by decide +kernel
theorem dX1_take_12 : decode cX1_take 12 = .ok (.getfield 7, 3) := by decide +kernel
theorem dX1_take_15 : decode cX1_take 15 = .ok (.iload_n 2, 1) := by decide +kernel
theorem dX1_take_16 : decode cX1_take 16 = .ok (.aload_n 1, 1) := by decide +kernel
theorem dX1_take_17 : decode cX1_take 17 = .ok (.iload_n 2, 1) := by decide +kernel
theorem dX1_take_18 : decode cX1_take 18 = .ok (.invokevirtual 13, 3) := by decide +kernel
theorem dX1_take_21 : decode cX1_take 21 = .ok (.iastore, 1) := by decide +kernel
theorem dX1_take_22 : decode cX1_take 22 = .ok (.iinc 2 1, 3) := by decide +kernel
theorem dX1_take_25 : decode cX1_take 25 = .ok (.goto (-23), 3) := by decide +kernel
theorem dX1_take_28 : decode cX1_take 28 = .ok (.return_, 1) := by decide +kernel
set_option maxRecDepth 20000 in
theorem ggX2_init_X1_init : GoodIn wsX2_init wsX1_init := goodIn_r _ [23, 24, 2, 3, 25, 26, 43] (by decide +kernel) (by decide +kernel)
set_option maxRecDepth 20000 in
theorem gX2_init_X1_init : GoodIn wsX2_init (wsX1_init) := ggX2_init_X1_init
set_option maxRecDepth 20000 in
theorem ggX2_init_X0_init : GoodIn wsX2_init wsX0_init := goodIn_r _ [28, 29, 2, 3, 30, 31, 32, 33, 34, 5, 6, 35, 36, 37, 38, 39, 40, 41, 42, 22, 23, 24, 25, 26, 55, 56, 57, 58, 59, 60, 61, 62, 63, 64, 65, 43] (by decide +kernel) (by decide +kernel)
set_option maxRecDepth 20000 in
theorem gX2_init_X0_init_n33 : GoodIn wsX2_init (wsX0_init) := ggX2_init_X0_init
theorem dX2_init_0 : decode cX2_init 0 = .ok (.aload_n 0, 1) := by decide +kernel
theorem dX2_init_1 : decode cX2_init 1 = .ok (.invokespecial 3, 3) := by decide +kernel
theorem dX2_init_4 : decode cX2_init 4 = .ok (.aload_n 0, 1) := by decide +kernel
theorem dX2_init_5 : decode cX2_init 5 = .ok (.new 9, 3) := by decide +kernel
theorem dX2_init_8 : decode cX2_init 8 = .ok (.dup, 1) := by decide +kernel
theorem dX2_init_9 : decode cX2_init 9 = .ok (.bipush 19, 2) := by decide +kernel
theorem dX2_init_11 : decode cX2_init 11 = .ok (.invokespecial 11, 3) := by decide +kernel
theorem dX2_init_14 : decode cX2_init 14 = .ok (.putfield 14, 3) := by decide +kernel
theorem dX2_init_17 : decode cX2_init 17 = .ok (.aload_n 0, 1) := by decide +kernel
theorem dX2_init_18 : decode cX2_init 18 = .ok (.iconst 0, 1) := by decide +kernel
theorem dX2_init_19 : decode cX2_init 19 = .ok (.putfield 18, 3) := by decide +kernel
theorem dX2_init_22 : decode cX2_init 22 = .ok (.aload_n 0, 1) := by decide +kernel
theorem dX2_init_23 : decode cX2_init 23 = .ok (.iconst 0, 1) := by decide +kernel
theorem dX2_init_24 : decode cX2_init 24 = .ok (.putfield 22, 3) := by decide +kernel
theorem dX2_init_27 : decode cX2_init 27 = .ok (.aload_n 0, 1) := by decide +kernel
theorem dX2_init_28 : decode cX2_init 28 = .ok (.iconst 0, 1) := by decide +kernel
theorem dX2_init_29 : decode cX2_init 29 = .ok (.putfield 25, 3) := by decide +kernel
theorem dX2_init_32 : decode cX2_init 32 = .ok (.aload_n 0, 1) := by decide +kernel
theorem dX2_init_33 : decode cX2_init 33 = .ok (.new 9, 3) := by decide +kernel
theorem dX2_init_36 : decode cX2_init 36 = .ok (.dup, 1) := by decide +kernel
theorem dX2_init_37 : decode cX2_init 37 = .ok (.bipush 6, 2) := by decide +kernel
theorem dX2_init_39 : decode cX2_init 39 = .ok (.invokespecial 11, 3) := by decide +kernel
theorem dX2_init_42 : decode cX2_init 42 = .ok (.putfield 28, 3) := by decide +kernel
theorem dX2_init_45 : decode cX2_init 45 = .ok (.aload_n 0, 1) := by decide +kernel
theorem dX2_init_46 : decode cX2_init 46 = .ok (.new 31, 3) := by decide +kernel
theorem dX2_init_49 : decode cX2_init 49 = .ok (.dup, 1) := by decide +kernel
theorem dX2_init_50 : decode cX2_init 50 = .ok (.invokespecial 33, 3) := by decide +kernel
theorem dX2_init_53 : decode cX2_init 53 = .ok (.putfield 34, 3) := by decide +kernel
theorem dX2_init_56 : decode cX2_init 56 = .ok (.aload_n 0, 1) := by decide +kernel
theorem dX2_init_57 : decode cX2_init 57 = .ok (.new 31, 3) := by decide +kernel
theorem dX2_init_60 : decode cX2_init 60 = .ok (.dup, 1) := by decide +kernel
theorem dX2_init_61 : decode cX2_init 61 = .ok (.invokespecial 33, 3) := by decide +kernel
theorem dX2_init_64 : decode cX2_init 64 = .ok (.putfield 38, 3) := by decide +kernel
theorem dX2_init_67 : decode cX2_init 67 = .ok (.aload_n 0, 1) := by decide +kernel
theorem dX2_init_68 : decode cX2_init 68 = .ok (.iconst 0, 1) := by decide +kernel
theorem dX2_init_69 : decode cX2_init 69 = .ok (.putfield 41, 3) := by decide +kernel
theorem dX2_init_72 : decode cX2_init 72 = .ok (.aload_n 0, 1) := by decide +kernel
theorem dX2_init_73 : decode cX2_init 73 = .ok (.new 9, 3) := by decide +kernel
theorem dX2_init_76 : decode cX2_init 76 = .ok (.dup, 1) := by decide +kernel
theorem dX2_init_77 : decode cX2_init 77 = .ok (.bipush 6, 2) := by decide +kernel
theorem dX2_init_79 : decode cX2_init 79 = .ok (.invokespecial 11, 3) := by decide +kernel
theorem dX2_init_82 : decode cX2_init 82 = .ok (.putfield 45, 3) := by decide +kernel
theorem dX2_init_85 : decode cX2_init 85 = .ok (.aload_n 0, 1) := by decide +kernel
theorem dX2_init_86 : decode cX2_init 86 = .ok (.new 9, 3) := by decide +kernel
theorem dX2_init_89 : decode cX2_init 89 = .ok (.dup, 1) := by decide +kernel
theorem dX2_init_90 : decode cX2_init 90 = .ok (.bipush 31, 2) := by decide +kernel
theorem dX2_init_92 : decode cX2_init 92 = .ok (.invokespecial 11, 3) := by decide +kernel
theorem dX2_init_95 : decode cX2_init 95 = .ok (.putfield 48, 3) := by decide +kernel
theorem dX2_init_98 : decode cX2_init 98 = .ok (.aload_n 0, 1) := by decide +kernel
theorem dX2_init_99 : decode cX2_init 99 = .ok (.new 9, 3) := by decide +kernel
theorem dX2_init_102 : decode cX2_init 102 = .ok (.dup, 1) := by decide +kernel
theorem dX2_init_103 : decode cX2_init 103 = .ok (.bipush 40, 2) := by decide +kernel
theorem dX2_init_105 : decode cX2_init 105 = .ok (.invokespecial 11, 3) := by decide +kernel
theorem dX2_init_108 : decode cX2_init 108 = .ok (.putfield 51, 3) := by decide +kernel
theorem dX2_init_111 : decode cX2_init 111 = .ok (.return_, 1) := by decide +kernel
set_option maxRecDepth 20000 in
theorem ggX2_letter_X1_put : GoodIn wsX2_letter wsX1_put := goodIn_r _ [7, 8, 20] (by decide +kernel) (by decide +kernel)
set_option maxRecDepth 20000 in
theorem gX2_letter_X1_put : GoodIn wsX2_letter (wsV RX2 54 RX1 yX1_put wsX1_put) := goodIn_app (goodIn_of _ (by decide +kernel)) ggX2_letter_X1_put
theorem dX2_letter_0 : decode cX2_letter 0 = .ok (.iload_n 1, 1) := by decide +kernel
theorem dX2_letter_1 : decode cX2_letter 1 = .ok (.bipush 32, 2) := by decide +kernel
theorem dX2_letter_3 : decode cX2_letter 3 = .ok (.if_icmp .lt 9, 3) := by decide +kernel
theorem dX2_letter_6 : decode cX2_letter 6 = .ok (.iload_n 1, 1) := by decide +kernel
theorem dX2_letter_7 : decode cX2_letter 7 = .ok (.bipush 126, 2) := by decide +kernel
theorem dX2_letter_9 : decode cX2_letter 9 = .ok (.if_icmp .le 6, 3) := by decide +kernel
theorem dX2_letter_12 : decode cX2_letter 12 = .ok (.bipush (-102), 2) := by decide +kernel
theorem dX2_letter_14 : decode cX2_letter 14 = .ok (.ireturn, 1) := by decide +kernel
theorem dX2_letter_15 : decode cX2_letter 15 = .ok (.aload_n 0, 1) := by decide +kernel
theorem dX2_letter_16 : decode cX2_letter 16 = .ok (.getfield 18, 3) := by decide +kernel
theorem dX2_letter_19 : decode cX2_letter 19 = .ok (.bipush 19, 2) := by decide +kernel
theorem dX2_letter_21 : decode cX2_letter 21 = .ok (.if_icmp .lt 6, 3) := by decide +kernel
theorem dX2_letter_24 : decode cX2_letter 24 = .ok (.bipush (-104), 2) := by decide +kernel
theorem dX2_letter_26 : decode cX2_letter 26 = .ok (.ireturn, 1) := by decide +kernel
theorem dX2_letter_27 : decode cX2_letter 27 = .ok (.aload_n 0, 1) := by decide +kernel
theorem dX2_letter_28 : decode cX2_letter 28 = .ok (.getfield 14, 3) := by decide +kernel
theorem dX2_letter_31 : decode cX2_letter 31 = .ok (.aload_n 0, 1) := by decide +kernel
theorem dX2_letter_32 : decode cX2_letter 32 = .ok (.getfield 18, 3) := by decide +kernel
theorem dX2_letter_35 : decode cX2_letter 35 = .ok (.iload_n 1, 1) := by decide +kernel
theorem dX2_letter_36 : decode cX2_letter 36 = .ok (.invokevirtual 54, 3) := by decide +kernel
theorem dX2_letter_39 : decode cX2_letter 39 = .ok (.aload_n 0, 1) := by decide +kernel
theorem dX2_letter_40 : decode cX2_letter 40 = .ok (.dup, 1) := by decide +kernel
theorem dX2_letter_41 : decode cX2_letter 41 = .ok (.getfield 18, 3) := by decide +kernel
theorem dX2_letter_44 : decode cX2_letter 44 = .ok (.iconst 1, 1) := by decide +kernel
theorem dX2_letter_45 : decode cX2_letter 45 = .ok (.iadd, 1) := by decide +kernel
theorem dX2_letter_46 : decode cX2_letter 46 = .ok (.putfield 18, 3) := by decide +kernel
theorem dX2_letter_49 : decode cX2_letter 49 = .ok (.aload_n 0, 1) := by decide +kernel
theorem dX2_letter_50 : decode cX2_letter 50 = .ok (.getfield 18, 3) := by decide +kernel
theorem dX2_letter_53 : decode cX2_letter 53 = .ok (.ireturn, 1) := by decide +kernel
theorem dX2_blank_0 : decode cX2_blank 0 = .ok (.aload_n 0, 1) := by decide +kernel
theorem dX2_blank_1 : decode cX2_blank 1 = .ok (.getfield 18, 3) := by decide +kernel
theorem dX2_blank_4 : decode cX2_blank 4 = .ok (.istore_n 1, 1) := by decide +kernel
theorem dX2_blank_5 : decode cX2_blank 5 = .ok (.aload_n 0, 1) := by decide +kernel
theorem dX2_blank_6 : decode cX2_blank 6 = .ok (.iconst 0, 1) := by decide +kernel
theorem dX2_blank_7 : decode cX2_blank 7 = .ok (.putfield 18, 3) := by decide +kernel
theorem dX2_blank_10 : decode cX2_blank 10 = .ok (.iload_n 1, 1) := by decide +kernel
theorem dX2_blank_11 : decode cX2_blank 11 = .ok (.ireturn, 1) := by decide +kernel
set_option maxRecDepth 20000 in
theorem ggX2_fault_X1_at : GoodIn wsX2_fault wsX1_at := goodIn_r _ [7, 8, 76] (by decide +kernel) (by decide +kernel)
set_option maxRecDepth 20000 in
theorem gX2_fault_X1_at : GoodIn wsX2_fault (wsV RX2 58 RX1 yX1_at wsX1_at) := goodIn_app (goodIn_of _ (by decide +kernel)) ggX2_fault_X1_at
set_option maxRecDepth 20000 in
theorem ggX2_fault_X2_canStandAt : GoodIn wsX2_fault wsX2_canStandAt := goodIn_r _ [12, 13, 14, 11, 15, 16, 17, 18, 19, 20, 21, 22, 23, 24, 25, 26, 27, 28, 29, 30, 31, 32, 33, 34, 35, 36, 37, 38, 39, 40, 41, 42, 43, 44, 45, 46, 47, 48, 49, 50, 51, 52, 53, 54, 55, 56, 57, 58, 59, 60, 61, 62, 63, 64] (by decide +kernel) (by decide +kernel)
set_option maxRecDepth 20000 in
theorem gX2_fault_X2_canStandAt : GoodIn wsX2_fault (va_wsS RX2 62 yX2_canStandAt wsX2_canStandAt) := goodIn_app (goodIn_of _ (by decide +kernel)) ggX2_fault_X2_canStandAt
theorem dX2_fault_0 : decode cX2_fault 0 = .ok (.iconst 0, 1) := by decide +kernel
theorem dX2_fault_1 : decode cX2_fault 1 = .ok (.istore_n 1, 1) := by decide +kernel
theorem dX2_fault_2 : decode cX2_fault 2 = .ok (.iload_n 1, 1) := by decide +kernel
theorem dX2_fault_3 : decode cX2_fault 3 = .ok (.aload_n 0, 1) := by decide +kernel
theorem dX2_fault_4 : decode cX2_fault 4 = .ok (.getfield 18, 3) := by decide +kernel
theorem dX2_fault_7 : decode cX2_fault 7 = .ok (.if_icmp .ge 26, 3) := by decide +kernel
theorem dX2_fault_10 : decode cX2_fault 10 = .ok (.iload_n 1, 1) := by decide +kernel
theorem dX2_fault_11 : decode cX2_fault 11 = .ok (.aload_n 0, 1) := by decide +kernel
theorem dX2_fault_12 : decode cX2_fault 12 = .ok (.getfield 14, 3) := by decide +kernel
theorem dX2_fault_15 : decode cX2_fault 15 = .ok (.iload_n 1, 1) := by decide +kernel
theorem dX2_fault_16 : decode cX2_fault 16 = .ok (.invokevirtual 58, 3) := by decide +kernel
theorem dX2_fault_19 : decode cX2_fault 19 = .ok (.invokestatic 62, 3) := by decide +kernel
theorem dX2_fault_22 : decode cX2_fault 22 = .ok (.ifCond .ne 5, 3) := by decide +kernel
theorem dX2_fault_25 : decode cX2_fault 25 = .ok (.iload_n 1, 1) := by decide +kernel
theorem dX2_fault_26 : decode cX2_fault 26 = .ok (.ireturn, 1) := by decide +kernel
theorem dX2_fault_27 : decode cX2_fault 27 = .ok (.iinc 1 1, 3) := by decide +kernel
theorem dX2_fault_30 : decode cX2_fault 30 = .ok (.goto (-28), 3) := by decide +kernel
theorem dX2_fault_33 : decode cX2_fault 33 = .ok (.aload_n 0, 1) := by decide +kernel
theorem dX2_fault_34 : decode cX2_fault 34 = .ok (.getfield 18, 3) := by decide +kernel
theorem dX2_fault_37 : decode cX2_fault 37 = .ok (.ireturn, 1) := by decide +kernel
set_option maxRecDepth 20000 in
theorem ggX2_street_X2_housesOnPage : GoodIn wsX2_street wsX2_housesOnPage := goodIn_r _ [12, 6, 13, 14, 15, 11, 16, 4, 17, 18, 19, 20, 21, 22, 23, 24, 25, 26, 27, 28, 29, 30, 31, 32, 33, 34, 35, 36, 37, 38, 39, 40, 41, 42, 43, 44, 45, 46, 47, 48, 49, 50, 51, 52, 53, 54, 55, 56, 57, 58, 59, 60, 61, 62, 63, 64, 65, 66, 67, 68, 69, 70, 71, 72, 73, 74, 75, 76, 77, 96, 97, 98, 99, 100, 101, 102, 103, 104, 105, 106, 118] (by decide +kernel) (by decide +kernel)
set_option maxRecDepth 20000 in
theorem gX2_street_X2_housesOnPage : GoodIn wsX2_street (wsV RX2 66 RX2 yX2_housesOnPage wsX2_housesOnPage) := goodIn_app (goodIn_of _ (by decide +kernel)) ggX2_street_X2_housesOnPage
set_option maxRecDepth 20000 in
theorem ggX2_street_X0_startAnew : GoodIn wsX2_street wsX0_startAnew := goodIn_r _ [82, 83, 84, 85, 86, 87, 88, 89, 90, 20, 91, 22, 107, 108, 109, 110, 111, 112, 113, 114, 115, 116, 117, 118] (by decide +kernel) (by decide +kernel)
set_option maxRecDepth 20000 in
theorem gX2_street_X0_startAnew : GoodIn wsX2_street (wsV RX2 70 RX0 yX0_startAnew wsX0_startAnew) := goodIn_app (goodIn_of _ (by decide +kernel)) ggX2_street_X0_startAnew
set_option maxRecDepth 20000 in
theorem ggX2_street_X1_at : GoodIn wsX2_street wsX1_at := goodIn_r _ [21, 22, 118] (by decide +kernel) (by decide +kernel)
set_option maxRecDepth 20000 in
theorem gX2_street_X1_at : GoodIn wsX2_street (wsV RX2 58 RX1 yX1_at wsX1_at) := goodIn_app (goodIn_of _ (by decide +kernel)) ggX2_street_X1_at
set_option maxRecDepth 20000 in
theorem ggX2_street_X2_kindOfLetter : GoodIn wsX2_street wsX2_kindOfLetter := goodIn_r _ [28, 29, 30, 31, 32, 33, 34, 35, 36, 37, 38, 39, 40, 41, 42, 43, 44, 45, 46, 47, 48, 49, 50, 51, 52, 53, 54, 55, 56, 57, 58, 59, 60, 61, 62, 63, 64, 65, 66, 67, 68, 69, 70, 71, 72, 73, 74, 75, 76, 77] (by decide +kernel) (by decide +kernel)
set_option maxRecDepth 20000 in
theorem gX2_street_X2_kindOfLetter : GoodIn wsX2_street (va_wsS RX2 73 yX2_kindOfLetter wsX2_kindOfLetter) := goodIn_app (goodIn_of _ (by decide +kernel)) ggX2_street_X2_kindOfLetter
set_option maxRecDepth 20000 in
theorem ggX2_street_X1_put : GoodIn wsX2_street wsX1_put := goodIn_r _ [95, 22, 118] (by decide +kernel) (by decide +kernel)
set_option maxRecDepth 20000 in
theorem gX2_street_X1_put : GoodIn wsX2_street (wsV RX2 54 RX1 yX1_put wsX1_put) := goodIn_app (goodIn_of _ (by decide +kernel)) ggX2_street_X1_put
theorem dX2_street_0 : decode cX2_street 0 = .ok (.aload_n 0, 1) := by decide +kernel
theorem dX2_street_1 : decode cX2_street 1 = .ok (.invokevirtual 66, 3) := by decide +kernel
theorem dX2_street_4 : decode cX2_street 4 = .ok (.istore_n 1, 1) := by decide +kernel
theorem dX2_street_5 : decode cX2_street 5 = .ok (.iload_n 1, 1) := by decide +kernel
theorem dX2_street_6 : decode cX2_street 6 = .ok (.iconst 2, 1) := by decide +kernel
theorem dX2_street_7 : decode cX2_street 7 = .ok (.if_icmp .ge 6, 3) := by decide +kernel
theorem dX2_street_10 : decode cX2_street 10 = .ok (.bipush (-103), 2) := by decide +kernel
theorem dX2_street_12 : decode cX2_street 12 = .ok (.ireturn, 1) := by decide +kernel
theorem dX2_street_13 : decode cX2_street 13 = .ok (.aload_n 0, 1) := by decide +kernel
theorem dX2_street_14 : decode cX2_street 14 = .ok (.iload_n 1, 1) := by decide +kernel
theorem dX2_street_15 : decode cX2_street 15 = .ok (.putfield 22, 3) := by decide +kernel
theorem dX2_street_18 : decode cX2_street 18 = .ok (.aload_n 0, 1) := by decide +kernel
theorem dX2_street_19 : decode cX2_street 19 = .ok (.getfield 34, 3) := by decide +kernel
theorem dX2_street_22 : decode cX2_street 22 = .ok (.invokevirtual 70, 3) := by decide +kernel
theorem dX2_street_25 : decode cX2_street 25 = .ok (.iconst 0, 1) := by decide +kernel
theorem dX2_street_26 : decode cX2_street 26 = .ok (.istore_n 2, 1) := by decide +kernel
theorem dX2_street_27 : decode cX2_street 27 = .ok (.iload_n 2, 1) := by decide +kernel
theorem dX2_street_28 : decode cX2_street 28 = .ok (.aload_n 0, 1) := by decide +kernel
theorem dX2_street_29 : decode cX2_street 29 = .ok (.getfield 22, 3) := by decide +kernel
theorem dX2_street_32 : decode cX2_street 32 = .ok (.if_icmp .ge 56, 3) := by decide +kernel
theorem dX2_street_35 : decode cX2_street 35 = .ok (.iload_n 2, 1) := by decide +kernel
theorem dX2_street_36 : decode cX2_street 36 = .ok (.iconst 3, 1) := by decide +kernel
theorem dX2_street_37 : decode cX2_street 37 = .ok (.imul, 1) := by decide +kernel
theorem dX2_street_38 : decode cX2_street 38 = .ok (.istore_n 3, 1) := by decide +kernel
theorem dX2_street_39 : decode cX2_street 39 = .ok (.aload_n 0, 1) := by decide +kernel
theorem dX2_street_40 : decode cX2_street 40 = .ok (.getfield 28, 3) := by decide +kernel
theorem dX2_street_43 : decode cX2_street 43 = .ok (.iload_n 2, 1) := by decide +kernel
theorem dX2_street_44 : decode cX2_street 44 = .ok (.aload_n 0, 1) := by decide +kernel
theorem dX2_street_45 : decode cX2_street 45 = .ok (.getfield 14, 3) := by decide +kernel
theorem dX2_street_48 : decode cX2_street 48 = .ok (.iload_n 3, 1) := by decide +kernel
theorem dX2_street_49 : decode cX2_street 49 = .ok (.invokevirtual 58, 3) := by decide +kernel
theorem dX2_street_52 : decode cX2_street 52 = .ok (.invokestatic 73, 3) := by decide +kernel
theorem dX2_street_55 : decode cX2_street 55 = .ok (.invokevirtual 54, 3) := by decide +kernel
theorem dX2_street_58 : decode cX2_street 58 = .ok (.aload_n 0, 1) := by decide +kernel
theorem dX2_street_59 : decode cX2_street 59 = .ok (.getfield 34, 3) := by decide +kernel
theorem dX2_street_62 : decode cX2_street 62 = .ok (.getfield 76, 3) := by decide +kernel
theorem dX2_street_65 : decode cX2_street 65 = .ok (.iload_n 2, 1) := by decide +kernel
theorem dX2_street_66 : decode cX2_street 66 = .ok (.aload_n 0, 1) := by decide +kernel
theorem dX2_street_67 : decode cX2_street 67 = .ok (.getfield 14, 3) := by decide +kernel
theorem dX2_street_70 : decode cX2_street 70 = .ok (.iload_n 3, 1) := by decide +kernel
theorem dX2_street_71 : decode cX2_street 71 = .ok (.iconst 1, 1) := by decide +kernel
theorem dX2_street_72 : decode cX2_street 72 = .ok (.iadd, 1) := by decide +kernel
theorem dX2_street_73 : decode cX2_street 73 = .ok (.invokevirtual 58, 3) := by decide +kernel
theorem dX2_street_76 : decode cX2_street 76 = .ok (.bipush 48, 2) := by decide +kernel
theorem dX2_street_78 : decode cX2_street 78 = .ok (.isub, 1) := by decide +kernel
theorem dX2_street_79 : decode cX2_street 79 = .ok (.invokevirtual 54, 3) := by decide +kernel
theorem dX2_street_82 : decode cX2_street 82 = .ok (.iinc 2 1, 3) := by decide +kernel
theorem dX2_street_85 : decode cX2_street 85 = .ok (.goto (-58), 3) := by decide +kernel
theorem dX2_street_88 : decode cX2_street 88 = .ok (.aload_n 0, 1) := by decide +kernel
theorem dX2_street_89 : decode cX2_street 89 = .ok (.iconst 0, 1) := by decide +kernel
theorem dX2_street_90 : decode cX2_street 90 = .ok (.putfield 41, 3) := by decide +kernel
theorem dX2_street_93 : decode cX2_street 93 = .ok (.aload_n 0, 1) := by decide +kernel
theorem dX2_street_94 : decode cX2_street 94 = .ok (.iconst 0, 1) := by decide +kernel
theorem dX2_street_95 : decode cX2_street 95 = .ok (.putfield 18, 3) := by decide +kernel
theorem dX2_street_98 : decode cX2_street 98 = .ok (.aload_n 0, 1) := by decide +kernel
theorem dX2_street_99 : decode cX2_street 99 = .ok (.dup, 1) := by decide +kernel
theorem dX2_street_100 : decode cX2_street 100 = .ok (.getfield 25, 3) := by decide +kernel
theorem dX2_street_103 : decode cX2_street 103 = .ok (.iconst 1, 1) := by decide +kernel
theorem dX2_street_104 : decode cX2_street 104 = .ok (.iadd, 1) := by decide +kernel
theorem dX2_street_105 : decode cX2_street 105 = .ok (.putfield 25, 3) := by decide +kernel
theorem dX2_street_108 : decode cX2_street 108 = .ok (.aload_n 0, 1) := by decide +kernel
theorem dX2_street_109 : decode cX2_street 109 = .ok (.getfield 22, 3) := by decide +kernel
theorem dX2_street_112 : decode cX2_street 112 = .ok (.ireturn, 1) := by decide +kernel
set_option maxRecDepth 20000 in
theorem ggX2_about_X2_isHouse : GoodIn wsX2_about wsX2_isHouse := goodIn_r _ [7, 8, 45, 46, 47, 48, 49, 50, 51, 52, 53, 54, 55] (by decide +kernel) (by decide +kernel)
set_option maxRecDepth 20000 in
theorem gX2_about_X2_isHouse : GoodIn wsX2_about (wsV RX2 79 RX2 yX2_isHouse wsX2_isHouse) := goodIn_app (goodIn_of _ (by decide +kernel)) ggX2_about_X2_isHouse
set_option maxRecDepth 20000 in
theorem ggX2_about_X1_at : GoodIn wsX2_about wsX1_at := goodIn_r _ [13, 14, 67] (by decide +kernel) (by decide +kernel)
set_option maxRecDepth 20000 in
theorem gX2_about_X1_at : GoodIn wsX2_about (wsV RX2 58 RX1 yX1_at wsX1_at) := goodIn_app (goodIn_of _ (by decide +kernel)) ggX2_about_X1_at
set_option maxRecDepth 20000 in
theorem ggX2_about_X2_numberNow : GoodIn wsX2_about wsX2_numberNow := goodIn_r _ [18, 2, 19, 20, 21, 6, 22, 1, 9, 10, 11, 12, 13, 14, 23, 24, 25, 45, 46, 47, 48, 49, 50, 51, 52, 53, 54, 55, 56, 57, 58, 59, 60, 61, 62, 63, 64, 65, 66, 67] (by decide +kernel) (by decide +kernel)
set_option maxRecDepth 20000 in
theorem gX2_about_X2_numberNow : GoodIn wsX2_about (wsV RX2 83 RX2 yX2_numberNow wsX2_numberNow) := goodIn_app (goodIn_of _ (by decide +kernel)) ggX2_about_X2_numberNow
set_option maxRecDepth 20000 in
theorem ggX2_about_X2_owedBy : GoodIn wsX2_about wsX2_owedBy := goodIn_r _ [29, 2, 9, 10, 11, 12, 13, 14, 30, 31, 32, 6, 33, 8, 34, 35, 36, 37, 1, 38, 39, 40, 23, 24, 25, 45, 46, 47, 48, 49, 50, 51, 52, 53, 54, 55, 56, 57, 58, 59, 60, 61, 62, 63, 64, 65, 66, 67] (by decide +kernel) (by decide +kernel)
set_option maxRecDepth 20000 in
theorem gX2_about_X2_owedBy : GoodIn wsX2_about (wsV RX2 89 RX2 yX2_owedBy wsX2_owedBy) := goodIn_app (goodIn_of _ (by decide +kernel)) ggX2_about_X2_owedBy
set_option maxRecDepth 20000 in
theorem ggX2_about_X2_turnInWalk : GoodIn wsX2_about wsX2_turnInWalk := goodIn_r _ [44, 8, 19, 20, 21, 6, 22, 1, 9, 10, 11, 12, 13, 14, 23, 24, 25, 45, 46, 47, 48, 49, 50, 51, 52, 53, 54, 55, 67] (by decide +kernel) (by decide +kernel)
set_option maxRecDepth 20000 in
theorem gX2_about_X2_turnInWalk : GoodIn wsX2_about (wsV RX2 92 RX2 yX2_turnInWalk wsX2_turnInWalk) := goodIn_app (goodIn_of _ (by decide +kernel)) ggX2_about_X2_turnInWalk
theorem dX2_about_0 : decode cX2_about 0 = .ok (.aload_n 0, 1) := by decide +kernel
theorem dX2_about_1 : decode cX2_about 1 = .ok (.iload_n 1, 1) := by decide +kernel
theorem dX2_about_2 : decode cX2_about 2 = .ok (.invokevirtual 79, 3) := by decide +kernel
theorem dX2_about_5 : decode cX2_about 5 = .ok (.ifCond .ne 6, 3) := by decide +kernel
theorem dX2_about_8 : decode cX2_about 8 = .ok (.bipush (-101), 2) := by decide +kernel
theorem dX2_about_10 : decode cX2_about 10 = .ok (.ireturn, 1) := by decide +kernel
theorem dX2_about_11 : decode cX2_about 11 = .ok (.iload_n 2, 1) := by decide +kernel
theorem dX2_about_12 : decode cX2_about 12 = .ok (.ifCond .lt 8, 3) := by decide +kernel
theorem dX2_about_15 : decode cX2_about 15 = .ok (.iload_n 2, 1) := by decide +kernel
theorem dX2_about_16 : decode cX2_about 16 = .ok (.iconst 5, 1) := by decide +kernel
theorem dX2_about_17 : decode cX2_about 17 = .ok (.if_icmp .le 6, 3) := by decide +kernel
theorem dX2_about_20 : decode cX2_about 20 = .ok (.bipush (-102), 2) := by decide +kernel
theorem dX2_about_22 : decode cX2_about 22 = .ok (.ireturn, 1) := by decide +kernel
theorem dX2_about_23 : decode cX2_about 23 = .ok (.iload_n 2, 1) := by decide +kernel
theorem dX2_about_24 : decode cX2_about 24 = .ok (.tableswitch 81 0 4 #[36, 45, 57, 63, 75], 36) := by decide +kernel
theorem dX2_about_60 : decode cX2_about 60 = .ok (.aload_n 0, 1) := by decide +kernel
theorem dX2_about_61 : decode cX2_about 61 = .ok (.getfield 28, 3) := by decide +kernel
theorem dX2_about_64 : decode cX2_about 64 = .ok (.iload_n 1, 1) := by decide +kernel
theorem dX2_about_65 : decode cX2_about 65 = .ok (.invokevirtual 58, 3) := by decide +kernel
theorem dX2_about_68 : decode cX2_about 68 = .ok (.ireturn, 1) := by decide +kernel
theorem dX2_about_69 : decode cX2_about 69 = .ok (.aload_n 0, 1) := by decide +kernel
theorem dX2_about_70 : decode cX2_about 70 = .ok (.getfield 34, 3) := by decide +kernel
theorem dX2_about_73 : decode cX2_about 73 = .ok (.getfield 76, 3) := by decide +kernel
theorem dX2_about_76 : decode cX2_about 76 = .ok (.iload_n 1, 1) := by decide +kernel
theorem dX2_about_77 : decode cX2_about 77 = .ok (.invokevirtual 58, 3) := by decide +kernel
theorem dX2_about_80 : decode cX2_about 80 = .ok (.ireturn, 1) := by decide +kernel
theorem dX2_about_81 : decode cX2_about 81 = .ok (.aload_n 0, 1) := by decide +kernel
theorem dX2_about_82 : decode cX2_about 82 = .ok (.iload_n 1, 1) := by decide +kernel
theorem dX2_about_83 : decode cX2_about 83 = .ok (.invokevirtual 83, 3) := by decide +kernel
theorem dX2_about_86 : decode cX2_about 86 = .ok (.ireturn, 1) := by decide +kernel
theorem dX2_about_87 : decode cX2_about 87 = .ok (.aload_n 0, 1) := by decide +kernel
theorem dX2_about_88 : decode cX2_about 88 = .ok (.getfield 34, 3) := by decide +kernel
theorem dX2_about_91 : decode cX2_about 91 = .ok (.getfield 86, 3) := by decide +kernel
theorem dX2_about_94 : decode cX2_about 94 = .ok (.iload_n 1, 1) := by decide +kernel
theorem dX2_about_95 : decode cX2_about 95 = .ok (.invokevirtual 58, 3) := by decide +kernel
theorem dX2_about_98 : decode cX2_about 98 = .ok (.ireturn, 1) := by decide +kernel
theorem dX2_about_99 : decode cX2_about 99 = .ok (.aload_n 0, 1) := by decide +kernel
theorem dX2_about_100 : decode cX2_about 100 = .ok (.iload_n 1, 1) := by decide +kernel
theorem dX2_about_101 : decode cX2_about 101 = .ok (.invokevirtual 89, 3) := by decide +kernel
theorem dX2_about_104 : decode cX2_about 104 = .ok (.ireturn, 1) := by decide +kernel
theorem dX2_about_105 : decode cX2_about 105 = .ok (.aload_n 0, 1) := by decide +kernel
theorem dX2_about_106 : decode cX2_about 106 = .ok (.aload_n 0, 1) := by decide +kernel
theorem dX2_about_107 : decode cX2_about 107 = .ok (.getfield 34, 3) := by decide +kernel
theorem dX2_about_110 : decode cX2_about 110 = .ok (.getfield 76, 3) := by decide +kernel
theorem dX2_about_113 : decode cX2_about 113 = .ok (.iload_n 1, 1) := by decide +kernel
theorem dX2_about_114 : decode cX2_about 114 = .ok (.invokevirtual 92, 3) := by decide +kernel
theorem dX2_about_117 : decode cX2_about 117 = .ok (.ireturn, 1) := by decide +kernel
set_option maxRecDepth 20000 in
theorem ggX2_as_X2_isHouse : GoodIn wsX2_as wsX2_isHouse := goodIn_r _ [6, 7, 17, 18, 19, 20, 21, 22, 23, 24, 25, 26, 27] (by decide +kernel) (by decide +kernel)
set_option maxRecDepth 20000 in
theorem gX2_as_X2_isHouse : GoodIn wsX2_as (wsV RX2 79 RX2 yX2_isHouse wsX2_isHouse) := goodIn_app (goodIn_of _ (by decide +kernel)) ggX2_as_X2_isHouse
set_option maxRecDepth 20000 in
theorem ggX2_as_X1_at : GoodIn wsX2_as wsX1_at := goodIn_r _ [12, 13, 28] (by decide +kernel) (by decide +kernel)
set_option maxRecDepth 20000 in
theorem gX2_as_X1_at : GoodIn wsX2_as (wsV RX2 58 RX1 yX1_at wsX1_at) := goodIn_app (goodIn_of _ (by decide +kernel)) ggX2_as_X1_at
set_option maxRecDepth 20000 in
theorem ggX2_as_X2_isA : GoodIn wsX2_as wsX2_isA := goodIn_r _ [16] (by decide +kernel) (by decide +kernel)
set_option maxRecDepth 20000 in
theorem gX2_as_X2_isA : GoodIn wsX2_as (va_wsS RX2 96 yX2_isA wsX2_isA) := goodIn_app (goodIn_of _ (by decide +kernel)) ggX2_as_X2_isA
theorem dX2_as_0 : decode cX2_as 0 = .ok (.aload_n 0, 1) := by decide +kernel
theorem dX2_as_1 : decode cX2_as 1 = .ok (.iload_n 1, 1) := by decide +kernel
theorem dX2_as_2 : decode cX2_as 2 = .ok (.invokevirtual 79, 3) := by decide +kernel
theorem dX2_as_5 : decode cX2_as 5 = .ok (.ifCond .ne 6, 3) := by decide +kernel
theorem dX2_as_8 : decode cX2_as 8 = .ok (.bipush (-101), 2) := by decide +kernel
theorem dX2_as_10 : decode cX2_as 10 = .ok (.ireturn, 1) := by decide +kernel
theorem dX2_as_11 : decode cX2_as 11 = .ok (.iload_n 2, 1) := by decide +kernel
theorem dX2_as_12 : decode cX2_as 12 = .ok (.ifCond .lt 8, 3) := by decide +kernel
theorem dX2_as_15 : decode cX2_as 15 = .ok (.iload_n 2, 1) := by decide +kernel
theorem dX2_as_16 : decode cX2_as 16 = .ok (.iconst 4, 1) := by decide +kernel
theorem dX2_as_17 : decode cX2_as 17 = .ok (.if_icmp .le 6, 3) := by decide +kernel
theorem dX2_as_20 : decode cX2_as 20 = .ok (.bipush (-102), 2) := by decide +kernel
theorem dX2_as_22 : decode cX2_as 22 = .ok (.ireturn, 1) := by decide +kernel
theorem dX2_as_23 : decode cX2_as 23 = .ok (.aload_n 0, 1) := by decide +kernel
theorem dX2_as_24 : decode cX2_as 24 = .ok (.getfield 28, 3) := by decide +kernel
theorem dX2_as_27 : decode cX2_as 27 = .ok (.iload_n 1, 1) := by decide +kernel
theorem dX2_as_28 : decode cX2_as 28 = .ok (.invokevirtual 58, 3) := by decide +kernel
theorem dX2_as_31 : decode cX2_as 31 = .ok (.iload_n 2, 1) := by decide +kernel
theorem dX2_as_32 : decode cX2_as 32 = .ok (.invokestatic 96, 3) := by decide +kernel
theorem dX2_as_35 : decode cX2_as 35 = .ok (.ifCond .eq 7, 3) := by decide +kernel
theorem dX2_as_38 : decode cX2_as 38 = .ok (.iload_n 1, 1) := by decide +kernel
theorem dX2_as_39 : decode cX2_as 39 = .ok (.goto 4, 3) := by decide +kernel
theorem dX2_as_42 : decode cX2_as 42 = .ok (.iconst (-1), 1) := by decide +kernel
theorem dX2_as_43 : decode cX2_as 43 = .ok (.ireturn, 1) := by decide +kernel
set_option maxRecDepth 20000 in
theorem ggX2_birth_X2_isHouse : GoodIn wsX2_birth wsX2_isHouse := goodIn_r _ [7, 8, 36, 37, 38, 39, 40, 41, 42, 43, 44, 45, 46] (by decide +kernel) (by decide +kernel)
set_option maxRecDepth 20000 in
theorem gX2_birth_X2_isHouse : GoodIn wsX2_birth (wsV RX2 79 RX2 yX2_isHouse wsX2_isHouse) := goodIn_app (goodIn_of _ (by decide +kernel)) ggX2_birth_X2_isHouse
set_option maxRecDepth 20000 in
theorem ggX2_birth_X1_at : GoodIn wsX2_birth wsX1_at := goodIn_r _ [13, 14, 58] (by decide +kernel) (by decide +kernel)
set_option maxRecDepth 20000 in
theorem gX2_birth_X1_at : GoodIn wsX2_birth (wsV RX2 58 RX1 yX1_at wsX1_at) := goodIn_app (goodIn_of _ (by decide +kernel)) ggX2_birth_X1_at
set_option maxRecDepth 20000 in
theorem ggX2_birth_X2_isA : GoodIn wsX2_birth wsX2_isA := goodIn_r _ [17] (by decide +kernel) (by decide +kernel)
set_option maxRecDepth 20000 in
theorem gX2_birth_X2_isA : GoodIn wsX2_birth (va_wsS RX2 96 yX2_isA wsX2_isA) := goodIn_app (goodIn_of _ (by decide +kernel)) ggX2_birth_X2_isA
set_option maxRecDepth 20000 in
theorem ggX2_birth_X2_bear : GoodIn wsX2_birth wsX2_bear := goodIn_r _ [21, 22, 23, 24, 12, 25, 14, 26, 27, 28, 6, 29, 1, 3, 4, 5, 7, 8, 9, 10, 11, 13, 15, 16, 17, 58, 36, 37, 38, 39, 40, 41, 42, 43, 44, 45, 46] (by decide +kernel) (by decide +kernel)
set_option maxRecDepth 20000 in
theorem gX2_birth_X2_bear : GoodIn wsX2_birth (wsV RX2 99 RX2 yX2_bear wsX2_bear) := goodIn_app (goodIn_of _ (by decide +kernel)) ggX2_birth_X2_bear
set_option maxRecDepth 20000 in
theorem ggX2_birth_X1_add : GoodIn wsX2_birth wsX1_add := goodIn_r _ [33, 34, 10, 11, 12, 13, 14, 35, 23, 24, 25, 58] (by decide +kernel) (by decide +kernel)
set_option maxRecDepth 20000 in
theorem gX2_birth_X1_add : GoodIn wsX2_birth (wsV RX2 106 RX1 yX1_add wsX1_add) := goodIn_app (goodIn_of _ (by decide +kernel)) ggX2_birth_X1_add
set_option maxRecDepth 20000 in
theorem ggX2_birth_X2_lendsACradle : GoodIn wsX2_birth wsX2_lendsACradle := goodIn_r _ [29, 1, 3, 4, 5, 6, 7, 8, 9, 10, 11, 12, 13, 14, 15, 16, 17, 36, 37, 38, 39, 40, 41, 42, 43, 44, 45, 46, 58] (by decide +kernel) (by decide +kernel)
set_option maxRecDepth 20000 in
theorem gX2_birth_X2_lendsACradle : GoodIn wsX2_birth (wsV RX2 109 RX2 yX2_lendsACradle wsX2_lendsACradle) := goodIn_app (goodIn_of _ (by decide +kernel)) ggX2_birth_X2_lendsACradle
theorem dX2_birth_0 : decode cX2_birth 0 = .ok (.aload_n 0, 1) := by decide +kernel
theorem dX2_birth_1 : decode cX2_birth 1 = .ok (.iload_n 1, 1) := by decide +kernel
theorem dX2_birth_2 : decode cX2_birth 2 = .ok (.invokevirtual 79, 3) := by decide +kernel
theorem dX2_birth_5 : decode cX2_birth 5 = .ok (.ifCond .ne 6, 3) := by decide +kernel
theorem dX2_birth_8 : decode cX2_birth 8 = .ok (.bipush (-101), 2) := by decide +kernel
theorem dX2_birth_10 : decode cX2_birth 10 = .ok (.ireturn, 1) := by decide +kernel
theorem dX2_birth_11 : decode cX2_birth 11 = .ok (.aload_n 0, 1) := by decide +kernel
theorem dX2_birth_12 : decode cX2_birth 12 = .ok (.getfield 28, 3) := by decide +kernel
theorem dX2_birth_15 : decode cX2_birth 15 = .ok (.iload_n 1, 1) := by decide +kernel
theorem dX2_birth_16 : decode cX2_birth 16 = .ok (.invokevirtual 58, 3) := by decide +kernel
theorem dX2_birth_19 : decode cX2_birth 19 = .ok (.iconst 2, 1) := by decide +kernel
theorem dX2_birth_20 : decode cX2_birth 20 = .ok (.invokestatic 96, 3) := by decide +kernel
theorem dX2_birth_23 : decode cX2_birth 23 = .ok (.ifCond .eq 6, 3) := by decide +kernel
theorem dX2_birth_26 : decode cX2_birth 26 = .ok (.bipush (-103), 2) := by decide +kernel
theorem dX2_birth_28 : decode cX2_birth 28 = .ok (.ireturn, 1) := by decide +kernel
theorem dX2_birth_29 : decode cX2_birth 29 = .ok (.aload_n 0, 1) := by decide +kernel
theorem dX2_birth_30 : decode cX2_birth 30 = .ok (.aload_n 0, 1) := by decide +kernel
theorem dX2_birth_31 : decode cX2_birth 31 = .ok (.getfield 34, 3) := by decide +kernel
theorem dX2_birth_34 : decode cX2_birth 34 = .ok (.getfield 76, 3) := by decide +kernel
theorem dX2_birth_37 : decode cX2_birth 37 = .ok (.iload_n 1, 1) := by decide +kernel
theorem dX2_birth_38 : decode cX2_birth 38 = .ok (.invokevirtual 99, 3) := by decide +kernel
theorem dX2_birth_41 : decode cX2_birth 41 = .ok (.aload_n 0, 1) := by decide +kernel
theorem dX2_birth_42 : decode cX2_birth 42 = .ok (.getfield 34, 3) := by decide +kernel
theorem dX2_birth_45 : decode cX2_birth 45 = .ok (.dup, 1) := by decide +kernel
theorem dX2_birth_46 : decode cX2_birth 46 = .ok (.getfield 103, 3) := by decide +kernel
theorem dX2_birth_49 : decode cX2_birth 49 = .ok (.iconst 1, 1) := by decide +kernel
theorem dX2_birth_50 : decode cX2_birth 50 = .ok (.iadd, 1) := by decide +kernel
theorem dX2_birth_51 : decode cX2_birth 51 = .ok (.putfield 103, 3) := by decide +kernel
theorem dX2_birth_54 : decode cX2_birth 54 = .ok (.aload_n 0, 1) := by decide +kernel
theorem dX2_birth_55 : decode cX2_birth 55 = .ok (.getfield 34, 3) := by decide +kernel
theorem dX2_birth_58 : decode cX2_birth 58 = .ok (.getfield 86, 3) := by decide +kernel
theorem dX2_birth_61 : decode cX2_birth 61 = .ok (.iload_n 1, 1) := by decide +kernel
theorem dX2_birth_62 : decode cX2_birth 62 = .ok (.iconst 1, 1) := by decide +kernel
theorem dX2_birth_63 : decode cX2_birth 63 = .ok (.invokevirtual 106, 3) := by decide +kernel
theorem dX2_birth_66 : decode cX2_birth 66 = .ok (.aload_n 0, 1) := by decide +kernel
theorem dX2_birth_67 : decode cX2_birth 67 = .ok (.iload_n 1, 1) := by decide +kernel
theorem dX2_birth_68 : decode cX2_birth 68 = .ok (.invokevirtual 109, 3) := by decide +kernel
theorem dX2_birth_71 : decode cX2_birth 71 = .ok (.ifCond .ne 5, 3) := by decide +kernel
theorem dX2_birth_74 : decode cX2_birth 74 = .ok (.iconst 1, 1) := by decide +kernel
theorem dX2_birth_75 : decode cX2_birth 75 = .ok (.ireturn, 1) := by decide +kernel
theorem dX2_birth_76 : decode cX2_birth 76 = .ok (.aload_n 0, 1) := by decide +kernel
theorem dX2_birth_77 : decode cX2_birth 77 = .ok (.getfield 34, 3) := by decide +kernel
theorem dX2_birth_80 : decode cX2_birth 80 = .ok (.getfield 86, 3) := by decide +kernel
theorem dX2_birth_83 : decode cX2_birth 83 = .ok (.iload_n 1, 1) := by decide +kernel
theorem dX2_birth_84 : decode cX2_birth 84 = .ok (.iconst 1, 1) := by decide +kernel
theorem dX2_birth_85 : decode cX2_birth 85 = .ok (.iadd, 1) := by decide +kernel
theorem dX2_birth_86 : decode cX2_birth 86 = .ok (.iconst 1, 1) := by decide +kernel
theorem dX2_birth_87 : decode cX2_birth 87 = .ok (.invokevirtual 106, 3) := by decide +kernel
theorem dX2_birth_90 : decode cX2_birth 90 = .ok (.iconst 2, 1) := by decide +kernel
theorem dX2_birth_91 : decode cX2_birth 91 = .ok (.ireturn, 1) := by decide +kernel
set_option maxRecDepth 20000 in
theorem ggX2_day_X2_cellOf : GoodIn wsX2_day wsX2_cellOf := goodIn_r _ [6] (by decide +kernel) (by decide +kernel)
set_option maxRecDepth 20000 in
theorem gX2_day_X2_cellOf : GoodIn wsX2_day (va_wsS RX2 118 yX2_cellOf wsX2_cellOf) := goodIn_app (goodIn_of _ (by decide +kernel)) ggX2_day_X2_cellOf
set_option maxRecDepth 20000 in
theorem ggX2_day_X1_at : GoodIn wsX2_day wsX1_at := goodIn_r _ [11, 12, 47] (by decide +kernel) (by decide +kernel)
set_option maxRecDepth 20000 in
theorem gX2_day_X1_at : GoodIn wsX2_day (wsV RX2 58 RX1 yX1_at wsX1_at) := goodIn_app (goodIn_of _ (by decide +kernel)) ggX2_day_X1_at
set_option maxRecDepth 20000 in
theorem ggX2_day_X1_put : GoodIn wsX2_day wsX1_put := goodIn_r _ [16, 12, 47] (by decide +kernel) (by decide +kernel)
set_option maxRecDepth 20000 in
theorem gX2_day_X1_put : GoodIn wsX2_day (wsV RX2 54 RX1 yX1_put wsX1_put) := goodIn_app (goodIn_of _ (by decide +kernel)) ggX2_day_X1_put
set_option maxRecDepth 20000 in
theorem ggX2_day_X2_growOlder : GoodIn wsX2_day wsX2_growOlder := goodIn_r _ [20, 1, 21, 7, 8, 9, 10, 11, 12, 22, 23, 5, 24, 13, 14, 15, 16, 25, 26, 27, 28, 29, 30, 31, 32, 33, 34, 35, 47] (by decide +kernel) (by decide +kernel)
set_option maxRecDepth 20000 in
theorem gX2_day_X2_growOlder : GoodIn wsX2_day (wsV RX2 122 RX2 yX2_growOlder wsX2_growOlder) := goodIn_app (goodIn_of _ (by decide +kernel)) ggX2_day_X2_growOlder
theorem dX2_day_0 : decode cX2_day 0 = .ok (.aload_n 0, 1) := by decide +kernel
theorem dX2_day_1 : decode cX2_day 1 = .ok (.getfield 22, 3) := by decide +kernel
theorem dX2_day_4 : decode cX2_day 4 = .ok (.ifCond .ne 6, 3) := by decide +kernel
theorem dX2_day_7 : decode cX2_day 7 = .ok (.bipush (-103), 2) := by decide +kernel
theorem dX2_day_9 : decode cX2_day 9 = .ok (.ireturn, 1) := by decide +kernel
theorem dX2_day_10 : decode cX2_day 10 = .ok (.aload_n 0, 1) := by decide +kernel
theorem dX2_day_11 : decode cX2_day 11 = .ok (.getfield 34, 3) := by decide +kernel
theorem dX2_day_14 : decode cX2_day 14 = .ok (.getfield 112, 3) := by decide +kernel
theorem dX2_day_17 : decode cX2_day 17 = .ok (.bipush 30, 2) := by decide +kernel
theorem dX2_day_19 : decode cX2_day 19 = .ok (.if_icmp .lt 6, 3) := by decide +kernel
theorem dX2_day_22 : decode cX2_day 22 = .ok (.bipush (-104), 2) := by decide +kernel
theorem dX2_day_24 : decode cX2_day 24 = .ok (.ireturn, 1) := by decide +kernel
theorem dX2_day_25 : decode cX2_day 25 = .ok (.iconst 0, 1) := by decide +kernel
theorem dX2_day_26 : decode cX2_day 26 = .ok (.istore_n 1, 1) := by decide +kernel
theorem dX2_day_27 : decode cX2_day 27 = .ok (.iload_n 1, 1) := by decide +kernel
theorem dX2_day_28 : decode cX2_day 28 = .ok (.aload_n 0, 1) := by decide +kernel
theorem dX2_day_29 : decode cX2_day 29 = .ok (.getfield 22, 3) := by decide +kernel
theorem dX2_day_32 : decode cX2_day 32 = .ok (.if_icmp .ge 41, 3) := by decide +kernel
theorem dX2_day_35 : decode cX2_day 35 = .ok (.aload_n 0, 1) := by decide +kernel
theorem dX2_day_36 : decode cX2_day 36 = .ok (.getfield 34, 3) := by decide +kernel
theorem dX2_day_39 : decode cX2_day 39 = .ok (.getfield 115, 3) := by decide +kernel
theorem dX2_day_42 : decode cX2_day 42 = .ok (.iload_n 1, 1) := by decide +kernel
theorem dX2_day_43 : decode cX2_day 43 = .ok (.aload_n 0, 1) := by decide +kernel
theorem dX2_day_44 : decode cX2_day 44 = .ok (.getfield 34, 3) := by decide +kernel
theorem dX2_day_47 : decode cX2_day 47 = .ok (.getfield 112, 3) := by decide +kernel
theorem dX2_day_50 : decode cX2_day 50 = .ok (.invokestatic 118, 3) := by decide +kernel
theorem dX2_day_53 : decode cX2_day 53 = .ok (.aload_n 0, 1) := by decide +kernel
theorem dX2_day_54 : decode cX2_day 54 = .ok (.getfield 34, 3) := by decide +kernel
theorem dX2_day_57 : decode cX2_day 57 = .ok (.getfield 76, 3) := by decide +kernel
theorem dX2_day_60 : decode cX2_day 60 = .ok (.iload_n 1, 1) := by decide +kernel
theorem dX2_day_61 : decode cX2_day 61 = .ok (.invokevirtual 58, 3) := by decide +kernel
theorem dX2_day_64 : decode cX2_day 64 = .ok (.invokevirtual 54, 3) := by decide +kernel
theorem dX2_day_67 : decode cX2_day 67 = .ok (.iinc 1 1, 3) := by decide +kernel
theorem dX2_day_70 : decode cX2_day 70 = .ok (.goto (-43), 3) := by decide +kernel
theorem dX2_day_73 : decode cX2_day 73 = .ok (.aload_n 0, 1) := by decide +kernel
theorem dX2_day_74 : decode cX2_day 74 = .ok (.aload_n 0, 1) := by decide +kernel
theorem dX2_day_75 : decode cX2_day 75 = .ok (.getfield 34, 3) := by decide +kernel
theorem dX2_day_78 : decode cX2_day 78 = .ok (.getfield 76, 3) := by decide +kernel
theorem dX2_day_81 : decode cX2_day 81 = .ok (.invokevirtual 122, 3) := by decide +kernel
theorem dX2_day_84 : decode cX2_day 84 = .ok (.aload_n 0, 1) := by decide +kernel
theorem dX2_day_85 : decode cX2_day 85 = .ok (.getfield 34, 3) := by decide +kernel
theorem dX2_day_88 : decode cX2_day 88 = .ok (.dup, 1) := by decide +kernel
theorem dX2_day_89 : decode cX2_day 89 = .ok (.getfield 112, 3) := by decide +kernel
theorem dX2_day_92 : decode cX2_day 92 = .ok (.iconst 1, 1) := by decide +kernel
theorem dX2_day_93 : decode cX2_day 93 = .ok (.iadd, 1) := by decide +kernel
theorem dX2_day_94 : decode cX2_day 94 = .ok (.putfield 112, 3) := by decide +kernel
theorem dX2_day_97 : decode cX2_day 97 = .ok (.aload_n 0, 1) := by decide +kernel
theorem dX2_day_98 : decode cX2_day 98 = .ok (.getfield 34, 3) := by decide +kernel
theorem dX2_day_101 : decode cX2_day 101 = .ok (.getfield 112, 3) := by decide +kernel
theorem dX2_day_104 : decode cX2_day 104 = .ok (.ireturn, 1) := by decide +kernel
set_option maxRecDepth 20000 in
theorem ggX2_then_X2_isHouse : GoodIn wsX2_then wsX2_isHouse := goodIn_r _ [5, 6, 29, 30, 31, 32, 33, 34, 35, 36, 37, 38, 39] (by decide +kernel) (by decide +kernel)
set_option maxRecDepth 20000 in
theorem gX2_then_X2_isHouse : GoodIn wsX2_then (wsV RX2 79 RX2 yX2_isHouse wsX2_isHouse) := goodIn_app (goodIn_of _ (by decide +kernel)) ggX2_then_X2_isHouse
set_option maxRecDepth 20000 in
theorem ggX2_then_X2_isDay : GoodIn wsX2_then wsX2_isDay := goodIn_r _ [10, 6, 11, 29, 30, 31, 32, 33, 34, 35, 36, 37, 38, 39, 40, 41, 42, 43, 44, 45, 46, 47, 48, 49, 50] (by decide +kernel) (by decide +kernel)
set_option maxRecDepth 20000 in
theorem gX2_then_X2_isDay : GoodIn wsX2_then (wsV RX2 126 RX2 yX2_isDay wsX2_isDay) := goodIn_app (goodIn_of _ (by decide +kernel)) ggX2_then_X2_isDay
set_option maxRecDepth 20000 in
theorem ggX2_then_X2_numberOn : GoodIn wsX2_then wsX2_numberOn := goodIn_r _ [15, 11, 16, 17, 18, 19, 20, 21, 22, 23, 24, 4, 25, 26, 27, 28, 29, 30, 31, 32, 33, 34, 35, 36, 37, 38, 39, 40, 41, 42, 43, 44, 45, 46, 47, 48, 49, 50, 51] (by decide +kernel) (by decide +kernel)
set_option maxRecDepth 20000 in
theorem gX2_then_X2_numberOn : GoodIn wsX2_then (wsV RX2 129 RX2 yX2_numberOn wsX2_numberOn) := goodIn_app (goodIn_of _ (by decide +kernel)) ggX2_then_X2_numberOn
theorem dX2_then_0 : decode cX2_then 0 = .ok (.aload_n 0, 1) := by decide +kernel
theorem dX2_then_1 : decode cX2_then 1 = .ok (.iload_n 1, 1) := by decide +kernel
theorem dX2_then_2 : decode cX2_then 2 = .ok (.invokevirtual 79, 3) := by decide +kernel
theorem dX2_then_5 : decode cX2_then 5 = .ok (.ifCond .eq 11, 3) := by decide +kernel
theorem dX2_then_8 : decode cX2_then 8 = .ok (.aload_n 0, 1) := by decide +kernel
theorem dX2_then_9 : decode cX2_then 9 = .ok (.iload_n 2, 1) := by decide +kernel
theorem dX2_then_10 : decode cX2_then 10 = .ok (.invokevirtual 126, 3) := by decide +kernel
theorem dX2_then_13 : decode cX2_then 13 = .ok (.ifCond .ne 6, 3) := by decide +kernel
theorem dX2_then_16 : decode cX2_then 16 = .ok (.bipush (-101), 2) := by decide +kernel
theorem dX2_then_18 : decode cX2_then 18 = .ok (.ireturn, 1) := by decide +kernel
theorem dX2_then_19 : decode cX2_then 19 = .ok (.aload_n 0, 1) := by decide +kernel
theorem dX2_then_20 : decode cX2_then 20 = .ok (.iload_n 1, 1) := by decide +kernel
theorem dX2_then_21 : decode cX2_then 21 = .ok (.iload_n 2, 1) := by decide +kernel
theorem dX2_then_22 : decode cX2_then 22 = .ok (.invokevirtual 129, 3) := by decide +kernel
theorem dX2_then_25 : decode cX2_then 25 = .ok (.ireturn, 1) := by decide +kernel
set_option maxRecDepth 20000 in
theorem ggX2_goesTo_X2_isDay : GoodIn wsX2_goesTo wsX2_isDay := goodIn_r _ [5, 6, 7, 29, 30, 31, 32, 33, 34, 35, 36, 37, 38, 39, 40, 41, 42, 43, 44, 45, 46, 47, 48, 49, 50] (by decide +kernel) (by decide +kernel)
set_option maxRecDepth 20000 in
theorem gX2_goesTo_X2_isDay : GoodIn wsX2_goesTo (wsV RX2 126 RX2 yX2_isDay wsX2_isDay) := goodIn_app (goodIn_of _ (by decide +kernel)) ggX2_goesTo_X2_isDay
set_option maxRecDepth 20000 in
theorem ggX2_goesTo_X2_houseWith : GoodIn wsX2_goesTo wsX2_houseWith := goodIn_r _ [11, 6, 12, 13, 14, 4, 15, 7, 16, 17, 18, 19, 20, 21, 22, 23, 24, 25, 26, 27, 28, 29, 30, 31, 32, 33, 34, 35, 36, 37, 38, 39, 40, 41, 42, 43, 44, 45, 46, 47, 48, 49, 50, 51] (by decide +kernel) (by decide +kernel)
set_option maxRecDepth 20000 in
theorem gX2_goesTo_X2_houseWith : GoodIn wsX2_goesTo (wsV RX2 132 RX2 yX2_houseWith wsX2_houseWith) := goodIn_app (goodIn_of _ (by decide +kernel)) ggX2_goesTo_X2_houseWith
theorem dX2_goesTo_0 : decode cX2_goesTo 0 = .ok (.aload_n 0, 1) := by decide +kernel
theorem dX2_goesTo_1 : decode cX2_goesTo 1 = .ok (.iload_n 2, 1) := by decide +kernel
theorem dX2_goesTo_2 : decode cX2_goesTo 2 = .ok (.invokevirtual 126, 3) := by decide +kernel
theorem dX2_goesTo_5 : decode cX2_goesTo 5 = .ok (.ifCond .ne 6, 3) := by decide +kernel
theorem dX2_goesTo_8 : decode cX2_goesTo 8 = .ok (.bipush (-101), 2) := by decide +kernel
theorem dX2_goesTo_10 : decode cX2_goesTo 10 = .ok (.ireturn, 1) := by decide +kernel
theorem dX2_goesTo_11 : decode cX2_goesTo 11 = .ok (.aload_n 0, 1) := by decide +kernel
theorem dX2_goesTo_12 : decode cX2_goesTo 12 = .ok (.iload_n 1, 1) := by decide +kernel
theorem dX2_goesTo_13 : decode cX2_goesTo 13 = .ok (.iload_n 2, 1) := by decide +kernel
theorem dX2_goesTo_14 : decode cX2_goesTo 14 = .ok (.invokevirtual 132, 3) := by decide +kernel
theorem dX2_goesTo_17 : decode cX2_goesTo 17 = .ok (.ireturn, 1) := by decide +kernel
set_option maxRecDepth 20000 in
theorem ggX2_walk_X2_lengthOfWalk : GoodIn wsX2_walk wsX2_lengthOfWalk := goodIn_r _ [7, 1, 8, 9, 10, 11, 12, 13, 14, 6, 15, 16, 17, 18, 19, 20, 21, 22, 23, 24, 25, 26, 27, 28, 29, 30, 31, 32, 33, 34, 35, 36, 37, 38, 39, 40, 41, 42, 43, 44, 56] (by decide +kernel) (by decide +kernel)
set_option maxRecDepth 20000 in
theorem gX2_walk_X2_lengthOfWalk : GoodIn wsX2_walk (wsV RX2 135 RX2 yX2_lengthOfWalk wsX2_lengthOfWalk) := goodIn_app (goodIn_of _ (by decide +kernel)) ggX2_walk_X2_lengthOfWalk
theorem dX2_walk_0 : decode cX2_walk 0 = .ok (.aload_n 0, 1) := by decide +kernel
theorem dX2_walk_1 : decode cX2_walk 1 = .ok (.getfield 22, 3) := by decide +kernel
theorem dX2_walk_4 : decode cX2_walk 4 = .ok (.ifCond .ne 6, 3) := by decide +kernel
theorem dX2_walk_7 : decode cX2_walk 7 = .ok (.bipush (-103), 2) := by decide +kernel
theorem dX2_walk_9 : decode cX2_walk 9 = .ok (.ireturn, 1) := by decide +kernel
theorem dX2_walk_10 : decode cX2_walk 10 = .ok (.aload_n 0, 1) := by decide +kernel
theorem dX2_walk_11 : decode cX2_walk 11 = .ok (.aload_n 0, 1) := by decide +kernel
theorem dX2_walk_12 : decode cX2_walk 12 = .ok (.getfield 34, 3) := by decide +kernel
theorem dX2_walk_15 : decode cX2_walk 15 = .ok (.getfield 76, 3) := by decide +kernel
theorem dX2_walk_18 : decode cX2_walk 18 = .ok (.invokevirtual 135, 3) := by decide +kernel
theorem dX2_walk_21 : decode cX2_walk 21 = .ok (.ireturn, 1) := by decide +kernel
set_option maxRecDepth 20000 in
theorem ggX2_debt_X1_put : GoodIn wsX2_debt wsX1_put := goodIn_r _ [7, 8, 31] (by decide +kernel) (by decide +kernel)
set_option maxRecDepth 20000 in
theorem gX2_debt_X1_put : GoodIn wsX2_debt (wsV RX2 54 RX1 yX1_put wsX1_put) := goodIn_app (goodIn_of _ (by decide +kernel)) ggX2_debt_X1_put
theorem dX2_debt_0 : decode cX2_debt 0 = .ok (.iload_n 1, 1) := by decide +kernel
theorem dX2_debt_1 : decode cX2_debt 1 = .ok (.iconst 1, 1) := by decide +kernel
theorem dX2_debt_2 : decode cX2_debt 2 = .ok (.if_icmp .lt 19, 3) := by decide +kernel
theorem dX2_debt_5 : decode cX2_debt 5 = .ok (.iload_n 1, 1) := by decide +kernel
theorem dX2_debt_6 : decode cX2_debt 6 = .ok (.bipush 9, 2) := by decide +kernel
theorem dX2_debt_8 : decode cX2_debt 8 = .ok (.if_icmp .gt 13, 3) := by decide +kernel
theorem dX2_debt_11 : decode cX2_debt 11 = .ok (.iload_n 2, 1) := by decide +kernel
theorem dX2_debt_12 : decode cX2_debt 12 = .ok (.ifCond .lt 9, 3) := by decide +kernel
theorem dX2_debt_15 : decode cX2_debt 15 = .ok (.iload_n 2, 1) := by decide +kernel
theorem dX2_debt_16 : decode cX2_debt 16 = .ok (.bipush 99, 2) := by decide +kernel
theorem dX2_debt_18 : decode cX2_debt 18 = .ok (.if_icmp .le 6, 3) := by decide +kernel
theorem dX2_debt_21 : decode cX2_debt 21 = .ok (.bipush (-102), 2) := by decide +kernel
theorem dX2_debt_23 : decode cX2_debt 23 = .ok (.ireturn, 1) := by decide +kernel
theorem dX2_debt_24 : decode cX2_debt 24 = .ok (.aload_n 0, 1) := by decide +kernel
theorem dX2_debt_25 : decode cX2_debt 25 = .ok (.getfield 22, 3) := by decide +kernel
theorem dX2_debt_28 : decode cX2_debt 28 = .ok (.ifCond .ne 6, 3) := by decide +kernel
theorem dX2_debt_31 : decode cX2_debt 31 = .ok (.bipush (-103), 2) := by decide +kernel
theorem dX2_debt_33 : decode cX2_debt 33 = .ok (.ireturn, 1) := by decide +kernel
theorem dX2_debt_34 : decode cX2_debt 34 = .ok (.aload_n 0, 1) := by decide +kernel
theorem dX2_debt_35 : decode cX2_debt 35 = .ok (.getfield 34, 3) := by decide +kernel
theorem dX2_debt_38 : decode cX2_debt 38 = .ok (.getfield 139, 3) := by decide +kernel
theorem dX2_debt_41 : decode cX2_debt 41 = .ok (.bipush 6, 2) := by decide +kernel
theorem dX2_debt_43 : decode cX2_debt 43 = .ok (.if_icmp .lt 6, 3) := by decide +kernel
theorem dX2_debt_46 : decode cX2_debt 46 = .ok (.bipush (-104), 2) := by decide +kernel
theorem dX2_debt_48 : decode cX2_debt 48 = .ok (.ireturn, 1) := by decide +kernel
theorem dX2_debt_49 : decode cX2_debt 49 = .ok (.aload_n 0, 1) := by decide +kernel
theorem dX2_debt_50 : decode cX2_debt 50 = .ok (.getfield 34, 3) := by decide +kernel
theorem dX2_debt_53 : decode cX2_debt 53 = .ok (.getfield 142, 3) := by decide +kernel
theorem dX2_debt_56 : decode cX2_debt 56 = .ok (.aload_n 0, 1) := by decide +kernel
theorem dX2_debt_57 : decode cX2_debt 57 = .ok (.getfield 34, 3) := by decide +kernel
theorem dX2_debt_60 : decode cX2_debt 60 = .ok (.getfield 139, 3) := by decide +kernel
theorem dX2_debt_63 : decode cX2_debt 63 = .ok (.iload_n 1, 1) := by decide +kernel
theorem dX2_debt_64 : decode cX2_debt 64 = .ok (.invokevirtual 54, 3) := by decide +kernel
theorem dX2_debt_67 : decode cX2_debt 67 = .ok (.aload_n 0, 1) := by decide +kernel
theorem dX2_debt_68 : decode cX2_debt 68 = .ok (.getfield 34, 3) := by decide +kernel
theorem dX2_debt_71 : decode cX2_debt 71 = .ok (.getfield 145, 3) := by decide +kernel
theorem dX2_debt_74 : decode cX2_debt 74 = .ok (.aload_n 0, 1) := by decide +kernel
theorem dX2_debt_75 : decode cX2_debt 75 = .ok (.getfield 34, 3) := by decide +kernel
theorem dX2_debt_78 : decode cX2_debt 78 = .ok (.getfield 139, 3) := by decide +kernel
theorem dX2_debt_81 : decode cX2_debt 81 = .ok (.iload_n 2, 1) := by decide +kernel
theorem dX2_debt_82 : decode cX2_debt 82 = .ok (.invokevirtual 54, 3) := by decide +kernel
theorem dX2_debt_85 : decode cX2_debt 85 = .ok (.aload_n 0, 1) := by decide +kernel
theorem dX2_debt_86 : decode cX2_debt 86 = .ok (.getfield 34, 3) := by decide +kernel
theorem dX2_debt_89 : decode cX2_debt 89 = .ok (.dup, 1) := by decide +kernel
theorem dX2_debt_90 : decode cX2_debt 90 = .ok (.getfield 139, 3) := by decide +kernel
theorem dX2_debt_93 : decode cX2_debt 93 = .ok (.iconst 1, 1) := by decide +kernel
theorem dX2_debt_94 : decode cX2_debt 94 = .ok (.iadd, 1) := by decide +kernel
theorem dX2_debt_95 : decode cX2_debt 95 = .ok (.putfield 139, 3) := by decide +kernel
theorem dX2_debt_98 : decode cX2_debt 98 = .ok (.aload_n 0, 1) := by decide +kernel
theorem dX2_debt_99 : decode cX2_debt 99 = .ok (.getfield 34, 3) := by decide +kernel
theorem dX2_debt_102 : decode cX2_debt 102 = .ok (.getfield 139, 3) := by decide +kernel
theorem dX2_debt_105 : decode cX2_debt 105 = .ok (.ireturn, 1) := by decide +kernel
set_option maxRecDepth 20000 in
theorem ggX2_pay_X1_at : GoodIn wsX2_pay wsX1_at := goodIn_r _ [6, 7, 30] (by decide +kernel) (by decide +kernel)
set_option maxRecDepth 20000 in
theorem gX2_pay_X1_at : GoodIn wsX2_pay (wsV RX2 58 RX1 yX1_at wsX1_at) := goodIn_app (goodIn_of _ (by decide +kernel)) ggX2_pay_X1_at
theorem dX2_pay_0 : decode cX2_pay 0 = .ok (.iconst 0, 1) := by decide +kernel
theorem dX2_pay_1 : decode cX2_pay 1 = .ok (.istore_n 1, 1) := by decide +kernel
theorem dX2_pay_2 : decode cX2_pay 2 = .ok (.iconst 0, 1) := by decide +kernel
theorem dX2_pay_3 : decode cX2_pay 3 = .ok (.istore_n 2, 1) := by decide +kernel
theorem dX2_pay_4 : decode cX2_pay 4 = .ok (.iload_n 2, 1) := by decide +kernel
theorem dX2_pay_5 : decode cX2_pay 5 = .ok (.aload_n 0, 1) := by decide +kernel
theorem dX2_pay_6 : decode cX2_pay 6 = .ok (.getfield 34, 3) := by decide +kernel
theorem dX2_pay_9 : decode cX2_pay 9 = .ok (.getfield 139, 3) := by decide +kernel
theorem dX2_pay_12 : decode cX2_pay 12 = .ok (.if_icmp .ge 23, 3) := by decide +kernel
theorem dX2_pay_15 : decode cX2_pay 15 = .ok (.iload_n 1, 1) := by decide +kernel
theorem dX2_pay_16 : decode cX2_pay 16 = .ok (.aload_n 0, 1) := by decide +kernel
theorem dX2_pay_17 : decode cX2_pay 17 = .ok (.getfield 34, 3) := by decide +kernel
theorem dX2_pay_20 : decode cX2_pay 20 = .ok (.getfield 142, 3) := by decide +kernel
theorem dX2_pay_23 : decode cX2_pay 23 = .ok (.iload_n 2, 1) := by decide +kernel
theorem dX2_pay_24 : decode cX2_pay 24 = .ok (.invokevirtual 58, 3) := by decide +kernel
theorem dX2_pay_27 : decode cX2_pay 27 = .ok (.iadd, 1) := by decide +kernel
theorem dX2_pay_28 : decode cX2_pay 28 = .ok (.istore_n 1, 1) := by decide +kernel
theorem dX2_pay_29 : decode cX2_pay 29 = .ok (.iinc 2 1, 3) := by decide +kernel
theorem dX2_pay_32 : decode cX2_pay 32 = .ok (.goto (-28), 3) := by decide +kernel
theorem dX2_pay_35 : decode cX2_pay 35 = .ok (.aload_n 0, 1) := by decide +kernel
theorem dX2_pay_36 : decode cX2_pay 36 = .ok (.getfield 34, 3) := by decide +kernel
theorem dX2_pay_39 : decode cX2_pay 39 = .ok (.iconst 0, 1) := by decide +kernel
theorem dX2_pay_40 : decode cX2_pay 40 = .ok (.putfield 139, 3) := by decide +kernel
theorem dX2_pay_43 : decode cX2_pay 43 = .ok (.iload_n 1, 1) := by decide +kernel
theorem dX2_pay_44 : decode cX2_pay 44 = .ok (.ireturn, 1) := by decide +kernel
set_option maxRecDepth 20000 in
theorem ggX2_cheap_X2_cheapestSet : GoodIn wsX2_cheap wsX2_cheapestSet := goodIn_r _ [6, 1, 7, 8, 9, 10, 11, 12, 13, 14, 15, 16, 5, 17, 18, 19, 20, 21, 22, 23, 24, 25, 26, 27, 28, 29, 30, 31, 32, 33, 34, 35, 36, 37, 38, 39, 40, 41, 42, 43, 44, 45, 46, 47, 48, 49, 50, 51, 52, 53, 54, 55, 56, 57, 58, 59, 60, 61, 62, 63, 64, 65, 66, 67, 68, 69, 70, 71, 72, 73, 74, 75, 76, 77, 78, 79, 80, 81, 82, 83, 84, 85, 86, 87, 88, 89, 90, 91] (by decide +kernel) (by decide +kernel)
set_option maxRecDepth 20000 in
theorem gX2_cheap_X2_cheapestSet : GoodIn wsX2_cheap (wsV RX2 148 RX2 yX2_cheapestSet wsX2_cheapestSet) := goodIn_app (goodIn_of _ (by decide +kernel)) ggX2_cheap_X2_cheapestSet
set_option maxRecDepth 20000 in
theorem ggX2_cheap_J6_bitCount_0f7a4 : GoodIn wsX2_cheap wsJ6_bitCount_0f7a4 := goodIn_r _ [10, 11, 12, 13] (by decide +kernel) (by decide +kernel)
set_option maxRecDepth 20000 in
theorem gX2_cheap_J6_bitCount_0f7a4 : GoodIn wsX2_cheap (va_wsS RX2 151 yJ6_bitCount_0f7a4 wsJ6_bitCount_0f7a4) := goodIn_app (goodIn_of _ (by decide +kernel)) ggX2_cheap_J6_bitCount_0f7a4
theorem dX2_cheap_0 : decode cX2_cheap 0 = .ok (.iload_n 1, 1) := by decide +kernel
theorem dX2_cheap_1 : decode cX2_cheap 1 = .ok (.ifCond .lt 19, 3) := by decide +kernel
theorem dX2_cheap_4 : decode cX2_cheap 4 = .ok (.iload_n 1, 1) := by decide +kernel
theorem dX2_cheap_5 : decode cX2_cheap 5 = .ok (.sipush 400, 3) := by decide +kernel
theorem dX2_cheap_8 : decode cX2_cheap 8 = .ok (.if_icmp .gt 12, 3) := by decide +kernel
theorem dX2_cheap_11 : decode cX2_cheap 11 = .ok (.iload_n 2, 1) := by decide +kernel
theorem dX2_cheap_12 : decode cX2_cheap 12 = .ok (.ifCond .lt 8, 3) := by decide +kernel
theorem dX2_cheap_15 : decode cX2_cheap 15 = .ok (.iload_n 2, 1) := by decide +kernel
theorem dX2_cheap_16 : decode cX2_cheap 16 = .ok (.iconst 1, 1) := by decide +kernel
theorem dX2_cheap_17 : decode cX2_cheap 17 = .ok (.if_icmp .le 6, 3) := by decide +kernel
theorem dX2_cheap_20 : decode cX2_cheap 20 = .ok (.bipush (-102), 2) := by decide +kernel
theorem dX2_cheap_22 : decode cX2_cheap 22 = .ok (.ireturn, 1) := by decide +kernel
theorem dX2_cheap_23 : decode cX2_cheap 23 = .ok (.aload_n 0, 1) := by decide +kernel
theorem dX2_cheap_24 : decode cX2_cheap 24 = .ok (.getfield 22, 3) := by decide +kernel
theorem dX2_cheap_27 : decode cX2_cheap 27 = .ok (.ifCond .ne 6, 3) := by decide +kernel
theorem dX2_cheap_30 : decode cX2_cheap 30 = .ok (.bipush (-103), 2) := by decide +kernel
theorem dX2_cheap_32 : decode cX2_cheap 32 = .ok (.ireturn, 1) := by decide +kernel
theorem dX2_cheap_33 : decode cX2_cheap 33 = .ok (.aload_n 0, 1) := by decide +kernel
theorem dX2_cheap_34 : decode cX2_cheap 34 = .ok (.iload_n 1, 1) := by decide +kernel
theorem dX2_cheap_35 : decode cX2_cheap 35 = .ok (.invokevirtual 148, 3) := by decide +kernel
theorem dX2_cheap_38 : decode cX2_cheap 38 = .ok (.istore_n 3, 1) := by decide +kernel
theorem dX2_cheap_39 : decode cX2_cheap 39 = .ok (.iload_n 3, 1) := by decide +kernel
theorem dX2_cheap_40 : decode cX2_cheap 40 = .ok (.iconst (-1), 1) := by decide +kernel
theorem dX2_cheap_41 : decode cX2_cheap 41 = .ok (.if_icmp .ne 5, 3) := by decide +kernel
theorem dX2_cheap_44 : decode cX2_cheap 44 = .ok (.iconst (-1), 1) := by decide +kernel
theorem dX2_cheap_45 : decode cX2_cheap 45 = .ok (.ireturn, 1) := by decide +kernel
theorem dX2_cheap_46 : decode cX2_cheap 46 = .ok (.iload_n 2, 1) := by decide +kernel
theorem dX2_cheap_47 : decode cX2_cheap 47 = .ok (.ifCond .ne 10, 3) := by decide +kernel
theorem dX2_cheap_50 : decode cX2_cheap 50 = .ok (.iload_n 3, 1) := by decide +kernel
theorem dX2_cheap_51 : decode cX2_cheap 51 = .ok (.invokestatic 151, 3) := by decide +kernel
theorem dX2_cheap_54 : decode cX2_cheap 54 = .ok (.goto 4, 3) := by decide +kernel
theorem dX2_cheap_57 : decode cX2_cheap 57 = .ok (.iload_n 3, 1) := by decide +kernel
theorem dX2_cheap_58 : decode cX2_cheap 58 = .ok (.ireturn, 1) := by decide +kernel
set_option maxRecDepth 20000 in
theorem ggX2_when_X2_isHouse : GoodIn wsX2_when wsX2_isHouse := goodIn_r _ [7, 8, 21, 22, 23, 24, 25, 26, 27, 28, 29, 30, 31] (by decide +kernel) (by decide +kernel)
set_option maxRecDepth 20000 in
theorem gX2_when_X2_isHouse : GoodIn wsX2_when (wsV RX2 79 RX2 yX2_isHouse wsX2_isHouse) := goodIn_app (goodIn_of _ (by decide +kernel)) ggX2_when_X2_isHouse
set_option maxRecDepth 20000 in
theorem ggX2_when_X1_at : GoodIn wsX2_when wsX1_at := goodIn_r _ [13, 14, 43] (by decide +kernel) (by decide +kernel)
set_option maxRecDepth 20000 in
theorem gX2_when_X1_at : GoodIn wsX2_when (wsV RX2 58 RX1 yX1_at wsX1_at) := goodIn_app (goodIn_of _ (by decide +kernel)) ggX2_when_X1_at
set_option maxRecDepth 20000 in
theorem ggX2_when_X2_numberOf : GoodIn wsX2_when wsX2_numberOf := goodIn_r _ [17] (by decide +kernel) (by decide +kernel)
set_option maxRecDepth 20000 in
theorem gX2_when_X2_numberOf : GoodIn wsX2_when (va_wsS RX2 156 yX2_numberOf wsX2_numberOf) := goodIn_app (goodIn_of _ (by decide +kernel)) ggX2_when_X2_numberOf
set_option maxRecDepth 20000 in
theorem ggX2_when_X2_ageNextDay : GoodIn wsX2_when wsX2_ageNextDay := goodIn_r _ [20] (by decide +kernel) (by decide +kernel)
set_option maxRecDepth 20000 in
theorem gX2_when_X2_ageNextDay : GoodIn wsX2_when (va_wsS RX2 159 yX2_ageNextDay wsX2_ageNextDay) := goodIn_app (goodIn_of _ (by decide +kernel)) ggX2_when_X2_ageNextDay
theorem dX2_when_0 : decode cX2_when 0 = .ok (.aload_n 0, 1) := by decide +kernel
theorem dX2_when_1 : decode cX2_when 1 = .ok (.iload_n 1, 1) := by decide +kernel
theorem dX2_when_2 : decode cX2_when 2 = .ok (.invokevirtual 79, 3) := by decide +kernel
theorem dX2_when_5 : decode cX2_when 5 = .ok (.ifCond .ne 6, 3) := by decide +kernel
theorem dX2_when_8 : decode cX2_when 8 = .ok (.bipush (-101), 2) := by decide +kernel
theorem dX2_when_10 : decode cX2_when 10 = .ok (.ireturn, 1) := by decide +kernel
theorem dX2_when_11 : decode cX2_when 11 = .ok (.aload_n 0, 1) := by decide +kernel
theorem dX2_when_12 : decode cX2_when 12 = .ok (.getfield 28, 3) := by decide +kernel
theorem dX2_when_15 : decode cX2_when 15 = .ok (.iload_n 1, 1) := by decide +kernel
theorem dX2_when_16 : decode cX2_when 16 = .ok (.invokevirtual 58, 3) := by decide +kernel
theorem dX2_when_19 : decode cX2_when 19 = .ok (.istore_n 3, 1) := by decide +kernel
theorem dX2_when_20 : decode cX2_when 20 = .ok (.aload_n 0, 1) := by decide +kernel
theorem dX2_when_21 : decode cX2_when 21 = .ok (.getfield 34, 3) := by decide +kernel
theorem dX2_when_24 : decode cX2_when 24 = .ok (.getfield 76, 3) := by decide +kernel
theorem dX2_when_27 : decode cX2_when 27 = .ok (.iload_n 1, 1) := by decide +kernel
theorem dX2_when_28 : decode cX2_when 28 = .ok (.invokevirtual 58, 3) := by decide +kernel
theorem dX2_when_31 : decode cX2_when 31 = .ok (.istore 4, 2) := by decide +kernel
theorem dX2_when_33 : decode cX2_when 33 = .ok (.iconst 0, 1) := by decide +kernel
theorem dX2_when_34 : decode cX2_when 34 = .ok (.istore 5, 2) := by decide +kernel
theorem dX2_when_36 : decode cX2_when 36 = .ok (.iload 5, 2) := by decide +kernel
theorem dX2_when_38 : decode cX2_when 38 = .ok (.bipush 99, 2) := by decide +kernel
theorem dX2_when_40 : decode cX2_when 40 = .ok (.if_icmp .gt 30, 3) := by decide +kernel
theorem dX2_when_43 : decode cX2_when 43 = .ok (.iload_n 3, 1) := by decide +kernel
theorem dX2_when_44 : decode cX2_when 44 = .ok (.iload 4, 2) := by decide +kernel
theorem dX2_when_46 : decode cX2_when 46 = .ok (.invokestatic 156, 3) := by decide +kernel
theorem dX2_when_49 : decode cX2_when 49 = .ok (.iload_n 2, 1) := by decide +kernel
theorem dX2_when_50 : decode cX2_when 50 = .ok (.if_icmp .ne 6, 3) := by decide +kernel
theorem dX2_when_53 : decode cX2_when 53 = .ok (.iload 5, 2) := by decide +kernel
theorem dX2_when_55 : decode cX2_when 55 = .ok (.ireturn, 1) := by decide +kernel
theorem dX2_when_56 : decode cX2_when 56 = .ok (.iload_n 3, 1) := by decide +kernel
theorem dX2_when_57 : decode cX2_when 57 = .ok (.iload 4, 2) := by decide +kernel
theorem dX2_when_59 : decode cX2_when 59 = .ok (.invokestatic 159, 3) := by decide +kernel
theorem dX2_when_62 : decode cX2_when 62 = .ok (.istore 4, 2) := by decide +kernel
theorem dX2_when_64 : decode cX2_when 64 = .ok (.iinc 5 1, 3) := by decide +kernel
theorem dX2_when_67 : decode cX2_when 67 = .ok (.goto (-31), 3) := by decide +kernel
theorem dX2_when_70 : decode cX2_when 70 = .ok (.iconst (-1), 1) := by decide +kernel
theorem dX2_when_71 : decode cX2_when 71 = .ok (.ireturn, 1) := by decide +kernel
set_option maxRecDepth 20000 in
theorem ggX2_hear_X2_isHouse : GoodIn wsX2_hear wsX2_isHouse := goodIn_r _ [6, 7, 14, 15, 16, 17, 18, 19, 20, 21, 22, 23, 24] (by decide +kernel) (by decide +kernel)
set_option maxRecDepth 20000 in
theorem gX2_hear_X2_isHouse : GoodIn wsX2_hear (wsV RX2 79 RX2 yX2_isHouse wsX2_isHouse) := goodIn_app (goodIn_of _ (by decide +kernel)) ggX2_hear_X2_isHouse
set_option maxRecDepth 20000 in
theorem ggX2_hear_X1_put : GoodIn wsX2_hear wsX1_put := goodIn_r _ [12, 13, 36] (by decide +kernel) (by decide +kernel)
set_option maxRecDepth 20000 in
theorem gX2_hear_X1_put : GoodIn wsX2_hear (wsV RX2 54 RX1 yX1_put wsX1_put) := goodIn_app (goodIn_of _ (by decide +kernel)) ggX2_hear_X1_put
theorem dX2_hear_0 : decode cX2_hear 0 = .ok (.aload_n 0, 1) := by decide +kernel
theorem dX2_hear_1 : decode cX2_hear 1 = .ok (.iload_n 1, 1) := by decide +kernel
theorem dX2_hear_2 : decode cX2_hear 2 = .ok (.invokevirtual 79, 3) := by decide +kernel
theorem dX2_hear_5 : decode cX2_hear 5 = .ok (.ifCond .ne 6, 3) := by decide +kernel
theorem dX2_hear_8 : decode cX2_hear 8 = .ok (.bipush (-101), 2) := by decide +kernel
theorem dX2_hear_10 : decode cX2_hear 10 = .ok (.ireturn, 1) := by decide +kernel
theorem dX2_hear_11 : decode cX2_hear 11 = .ok (.iload_n 2, 1) := by decide +kernel
theorem dX2_hear_12 : decode cX2_hear 12 = .ok (.ifCond .lt 9, 3) := by decide +kernel
theorem dX2_hear_15 : decode cX2_hear 15 = .ok (.iload_n 2, 1) := by decide +kernel
theorem dX2_hear_16 : decode cX2_hear 16 = .ok (.bipush 99, 2) := by decide +kernel
theorem dX2_hear_18 : decode cX2_hear 18 = .ok (.if_icmp .le 6, 3) := by decide +kernel
theorem dX2_hear_21 : decode cX2_hear 21 = .ok (.bipush (-102), 2) := by decide +kernel
theorem dX2_hear_23 : decode cX2_hear 23 = .ok (.ireturn, 1) := by decide +kernel
theorem dX2_hear_24 : decode cX2_hear 24 = .ok (.aload_n 0, 1) := by decide +kernel
theorem dX2_hear_25 : decode cX2_hear 25 = .ok (.getfield 34, 3) := by decide +kernel
theorem dX2_hear_28 : decode cX2_hear 28 = .ok (.getfield 162, 3) := by decide +kernel
theorem dX2_hear_31 : decode cX2_hear 31 = .ok (.bipush 6, 2) := by decide +kernel
theorem dX2_hear_33 : decode cX2_hear 33 = .ok (.if_icmp .lt 6, 3) := by decide +kernel
theorem dX2_hear_36 : decode cX2_hear 36 = .ok (.bipush (-104), 2) := by decide +kernel
theorem dX2_hear_38 : decode cX2_hear 38 = .ok (.ireturn, 1) := by decide +kernel
theorem dX2_hear_39 : decode cX2_hear 39 = .ok (.aload_n 0, 1) := by decide +kernel
theorem dX2_hear_40 : decode cX2_hear 40 = .ok (.getfield 34, 3) := by decide +kernel
theorem dX2_hear_43 : decode cX2_hear 43 = .ok (.getfield 165, 3) := by decide +kernel
theorem dX2_hear_46 : decode cX2_hear 46 = .ok (.aload_n 0, 1) := by decide +kernel
theorem dX2_hear_47 : decode cX2_hear 47 = .ok (.getfield 34, 3) := by decide +kernel
theorem dX2_hear_50 : decode cX2_hear 50 = .ok (.getfield 162, 3) := by decide +kernel
theorem dX2_hear_53 : decode cX2_hear 53 = .ok (.iload_n 1, 1) := by decide +kernel
theorem dX2_hear_54 : decode cX2_hear 54 = .ok (.invokevirtual 54, 3) := by decide +kernel
theorem dX2_hear_57 : decode cX2_hear 57 = .ok (.aload_n 0, 1) := by decide +kernel
theorem dX2_hear_58 : decode cX2_hear 58 = .ok (.getfield 34, 3) := by decide +kernel
theorem dX2_hear_61 : decode cX2_hear 61 = .ok (.getfield 168, 3) := by decide +kernel
theorem dX2_hear_64 : decode cX2_hear 64 = .ok (.aload_n 0, 1) := by decide +kernel
theorem dX2_hear_65 : decode cX2_hear 65 = .ok (.getfield 34, 3) := by decide +kernel
theorem dX2_hear_68 : decode cX2_hear 68 = .ok (.getfield 162, 3) := by decide +kernel
theorem dX2_hear_71 : decode cX2_hear 71 = .ok (.iload_n 2, 1) := by decide +kernel
theorem dX2_hear_72 : decode cX2_hear 72 = .ok (.invokevirtual 54, 3) := by decide +kernel
theorem dX2_hear_75 : decode cX2_hear 75 = .ok (.aload_n 0, 1) := by decide +kernel
theorem dX2_hear_76 : decode cX2_hear 76 = .ok (.getfield 34, 3) := by decide +kernel
theorem dX2_hear_79 : decode cX2_hear 79 = .ok (.dup, 1) := by decide +kernel
theorem dX2_hear_80 : decode cX2_hear 80 = .ok (.getfield 162, 3) := by decide +kernel
theorem dX2_hear_83 : decode cX2_hear 83 = .ok (.iconst 1, 1) := by decide +kernel
theorem dX2_hear_84 : decode cX2_hear 84 = .ok (.iadd, 1) := by decide +kernel
theorem dX2_hear_85 : decode cX2_hear 85 = .ok (.putfield 162, 3) := by decide +kernel
theorem dX2_hear_88 : decode cX2_hear 88 = .ok (.aload_n 0, 1) := by decide +kernel
theorem dX2_hear_89 : decode cX2_hear 89 = .ok (.getfield 34, 3) := by decide +kernel
theorem dX2_hear_92 : decode cX2_hear 92 = .ok (.getfield 162, 3) := by decide +kernel
theorem dX2_hear_95 : decode cX2_hear 95 = .ok (.ireturn, 1) := by decide +kernel
theorem dX2_forget_0 : decode cX2_forget 0 = .ok (.aload_n 0, 1) := by decide +kernel
theorem dX2_forget_1 : decode cX2_forget 1 = .ok (.getfield 34, 3) := by decide +kernel
theorem dX2_forget_4 : decode cX2_forget 4 = .ok (.getfield 162, 3) := by decide +kernel
theorem dX2_forget_7 : decode cX2_forget 7 = .ok (.istore_n 1, 1) := by decide +kernel
theorem dX2_forget_8 : decode cX2_forget 8 = .ok (.aload_n 0, 1) := by decide +kernel
theorem dX2_forget_9 : decode cX2_forget 9 = .ok (.getfield 34, 3) := by decide +kernel
theorem dX2_forget_12 : decode cX2_forget 12 = .ok (.iconst 0, 1) := by decide +kernel
theorem dX2_forget_13 : decode cX2_forget 13 = .ok (.putfield 162, 3) := by decide +kernel
theorem dX2_forget_16 : decode cX2_forget 16 = .ok (.iload_n 1, 1) := by decide +kernel
theorem dX2_forget_17 : decode cX2_forget 17 = .ok (.ireturn, 1) := by decide +kernel
set_option maxRecDepth 20000 in
theorem ggX2_days_X2_canHaveBeen : GoodIn wsX2_days wsX2_canHaveBeen := goodIn_r _ [7, 2, 8, 9, 10, 11, 12, 13, 14, 15, 16, 6, 17, 18, 19, 20, 21, 22, 23, 24, 25, 26, 27, 28, 29, 30, 31, 32, 33, 34, 35, 36, 37, 38, 39, 40, 41, 42, 43, 44, 45, 46, 47] (by decide +kernel) (by decide +kernel)
set_option maxRecDepth 20000 in
theorem gX2_days_X2_canHaveBeen : GoodIn wsX2_days (wsV RX2 171 RX2 yX2_canHaveBeen wsX2_canHaveBeen) := goodIn_app (goodIn_of _ (by decide +kernel)) ggX2_days_X2_canHaveBeen
theorem dX2_days_0 : decode cX2_days 0 = .ok (.iload_n 1, 1) := by decide +kernel
theorem dX2_days_1 : decode cX2_days 1 = .ok (.ifCond .lt 8, 3) := by decide +kernel
theorem dX2_days_4 : decode cX2_days 4 = .ok (.iload_n 1, 1) := by decide +kernel
theorem dX2_days_5 : decode cX2_days 5 = .ok (.iconst 1, 1) := by decide +kernel
theorem dX2_days_6 : decode cX2_days 6 = .ok (.if_icmp .le 6, 3) := by decide +kernel
theorem dX2_days_9 : decode cX2_days 9 = .ok (.bipush (-102), 2) := by decide +kernel
theorem dX2_days_11 : decode cX2_days 11 = .ok (.ireturn, 1) := by decide +kernel
theorem dX2_days_12 : decode cX2_days 12 = .ok (.aload_n 0, 1) := by decide +kernel
theorem dX2_days_13 : decode cX2_days 13 = .ok (.getfield 22, 3) := by decide +kernel
theorem dX2_days_16 : decode cX2_days 16 = .ok (.ifCond .ne 6, 3) := by decide +kernel
theorem dX2_days_19 : decode cX2_days 19 = .ok (.bipush (-103), 2) := by decide +kernel
theorem dX2_days_21 : decode cX2_days 21 = .ok (.ireturn, 1) := by decide +kernel
theorem dX2_days_22 : decode cX2_days 22 = .ok (.iconst 0, 1) := by decide +kernel
theorem dX2_days_23 : decode cX2_days 23 = .ok (.istore_n 2, 1) := by decide +kernel
theorem dX2_days_24 : decode cX2_days 24 = .ok (.iconst (-1), 1) := by decide +kernel
theorem dX2_days_25 : decode cX2_days 25 = .ok (.istore_n 3, 1) := by decide +kernel
theorem dX2_days_26 : decode cX2_days 26 = .ok (.aload_n 0, 1) := by decide +kernel
theorem dX2_days_27 : decode cX2_days 27 = .ok (.getfield 34, 3) := by decide +kernel
theorem dX2_days_30 : decode cX2_days 30 = .ok (.getfield 112, 3) := by decide +kernel
theorem dX2_days_33 : decode cX2_days 33 = .ok (.istore 4, 2) := by decide +kernel
theorem dX2_days_35 : decode cX2_days 35 = .ok (.iload 4, 2) := by decide +kernel
theorem dX2_days_37 : decode cX2_days 37 = .ok (.ifCond .lt 24, 3) := by decide +kernel
theorem dX2_days_40 : decode cX2_days 40 = .ok (.aload_n 0, 1) := by decide +kernel
theorem dX2_days_41 : decode cX2_days 41 = .ok (.iload 4, 2) := by decide +kernel
theorem dX2_days_43 : decode cX2_days 43 = .ok (.invokevirtual 171, 3) := by decide +kernel
theorem dX2_days_46 : decode cX2_days 46 = .ok (.ifCond .eq 9, 3) := by decide +kernel
theorem dX2_days_49 : decode cX2_days 49 = .ok (.iinc 2 1, 3) := by decide +kernel
theorem dX2_days_52 : decode cX2_days 52 = .ok (.iload 4, 2) := by decide +kernel
theorem dX2_days_54 : decode cX2_days 54 = .ok (.istore_n 3, 1) := by decide +kernel
theorem dX2_days_55 : decode cX2_days 55 = .ok (.iinc 4 (-1), 3) := by decide +kernel
theorem dX2_days_58 : decode cX2_days 58 = .ok (.goto (-23), 3) := by decide +kernel
theorem dX2_days_61 : decode cX2_days 61 = .ok (.iload_n 1, 1) := by decide +kernel
theorem dX2_days_62 : decode cX2_days 62 = .ok (.ifCond .ne 7, 3) := by decide +kernel
theorem dX2_days_65 : decode cX2_days 65 = .ok (.iload_n 2, 1) := by decide +kernel
theorem dX2_days_66 : decode cX2_days 66 = .ok (.goto 4, 3) := by decide +kernel
theorem dX2_days_69 : decode cX2_days 69 = .ok (.iload_n 3, 1) := by decide +kernel
theorem dX2_days_70 : decode cX2_days 70 = .ok (.ireturn, 1) := by decide +kernel
set_option maxRecDepth 20000 in
theorem ggX2_ask_X2_markPossibleDays : GoodIn wsX2_ask wsX2_markPossibleDays := goodIn_r _ [6, 7, 8, 9, 10, 11, 5, 12, 13, 14, 15, 16, 17, 18, 19, 20, 21, 22, 23, 24, 25, 26, 27, 28, 29, 30, 31, 32, 33, 53, 54, 55, 56, 57, 58, 59, 60, 61, 62, 63, 64, 65, 66, 67, 68, 69, 70, 71, 72, 73, 74, 75] (by decide +kernel) (by decide +kernel)
set_option maxRecDepth 20000 in
theorem gX2_ask_X2_markPossibleDays : GoodIn wsX2_ask (wsV RX2 174 RX2 yX2_markPossibleDays wsX2_markPossibleDays) := goodIn_app (goodIn_of _ (by decide +kernel)) ggX2_ask_X2_markPossibleDays
set_option maxRecDepth 20000 in
theorem ggX2_ask_X2_mostLeftBy : GoodIn wsX2_ask wsX2_mostLeftBy := goodIn_r _ [37, 38, 7, 8, 39, 40, 41, 42, 43, 44, 45, 16, 46, 18, 13, 14, 15, 17, 19, 20, 21, 5, 22, 23, 24, 25, 26, 27, 28, 29, 47, 48, 49, 50, 51, 52, 31, 32, 33, 53, 54, 55, 56, 57, 58, 59, 60, 61, 62, 63, 64, 65, 66, 67, 68, 69, 70, 71, 72, 73, 74, 75] (by decide +kernel) (by decide +kernel)
set_option maxRecDepth 20000 in
theorem gX2_ask_X2_mostLeftBy : GoodIn wsX2_ask (wsV RX2 177 RX2 yX2_mostLeftBy wsX2_mostLeftBy) := goodIn_app (goodIn_of _ (by decide +kernel)) ggX2_ask_X2_mostLeftBy
theorem dX2_ask_0 : decode cX2_ask 0 = .ok (.aload_n 0, 1) := by decide +kernel
theorem dX2_ask_1 : decode cX2_ask 1 = .ok (.getfield 22, 3) := by decide +kernel
theorem dX2_ask_4 : decode cX2_ask 4 = .ok (.ifCond .ne 6, 3) := by decide +kernel
theorem dX2_ask_7 : decode cX2_ask 7 = .ok (.bipush (-103), 2) := by decide +kernel
theorem dX2_ask_9 : decode cX2_ask 9 = .ok (.ireturn, 1) := by decide +kernel
theorem dX2_ask_10 : decode cX2_ask 10 = .ok (.aload_n 0, 1) := by decide +kernel
theorem dX2_ask_11 : decode cX2_ask 11 = .ok (.invokevirtual 174, 3) := by decide +kernel
theorem dX2_ask_14 : decode cX2_ask 14 = .ok (.ifCond .ne 5, 3) := by decide +kernel
theorem dX2_ask_17 : decode cX2_ask 17 = .ok (.iconst (-1), 1) := by decide +kernel
theorem dX2_ask_18 : decode cX2_ask 18 = .ok (.ireturn, 1) := by decide +kernel
theorem dX2_ask_19 : decode cX2_ask 19 = .ok (.iconst (-1), 1) := by decide +kernel
theorem dX2_ask_20 : decode cX2_ask 20 = .ok (.istore_n 1, 1) := by decide +kernel
theorem dX2_ask_21 : decode cX2_ask 21 = .ok (.iconst 0, 1) := by decide +kernel
theorem dX2_ask_22 : decode cX2_ask 22 = .ok (.istore_n 2, 1) := by decide +kernel
theorem dX2_ask_23 : decode cX2_ask 23 = .ok (.iconst 0, 1) := by decide +kernel
theorem dX2_ask_24 : decode cX2_ask 24 = .ok (.istore_n 3, 1) := by decide +kernel
theorem dX2_ask_25 : decode cX2_ask 25 = .ok (.iload_n 3, 1) := by decide +kernel
theorem dX2_ask_26 : decode cX2_ask 26 = .ok (.aload_n 0, 1) := by decide +kernel
theorem dX2_ask_27 : decode cX2_ask 27 = .ok (.getfield 22, 3) := by decide +kernel
theorem dX2_ask_30 : decode cX2_ask 30 = .ok (.if_icmp .ge 32, 3) := by decide +kernel
theorem dX2_ask_33 : decode cX2_ask 33 = .ok (.aload_n 0, 1) := by decide +kernel
theorem dX2_ask_34 : decode cX2_ask 34 = .ok (.iload_n 3, 1) := by decide +kernel
theorem dX2_ask_35 : decode cX2_ask 35 = .ok (.invokevirtual 177, 3) := by decide +kernel
theorem dX2_ask_38 : decode cX2_ask 38 = .ok (.istore 4, 2) := by decide +kernel
theorem dX2_ask_40 : decode cX2_ask 40 = .ok (.iload_n 1, 1) := by decide +kernel
theorem dX2_ask_41 : decode cX2_ask 41 = .ok (.iconst (-1), 1) := by decide +kernel
theorem dX2_ask_42 : decode cX2_ask 42 = .ok (.if_icmp .eq 9, 3) := by decide +kernel
theorem dX2_ask_45 : decode cX2_ask 45 = .ok (.iload 4, 2) := by decide +kernel
theorem dX2_ask_47 : decode cX2_ask 47 = .ok (.iload_n 2, 1) := by decide +kernel
theorem dX2_ask_48 : decode cX2_ask 48 = .ok (.if_icmp .ge 8, 3) := by decide +kernel
theorem dX2_ask_51 : decode cX2_ask 51 = .ok (.iload_n 3, 1) := by decide +kernel
theorem dX2_ask_52 : decode cX2_ask 52 = .ok (.istore_n 1, 1) := by decide +kernel
theorem dX2_ask_53 : decode cX2_ask 53 = .ok (.iload 4, 2) := by decide +kernel
theorem dX2_ask_55 : decode cX2_ask 55 = .ok (.istore_n 2, 1) := by decide +kernel
theorem dX2_ask_56 : decode cX2_ask 56 = .ok (.iinc 3 1, 3) := by decide +kernel
theorem dX2_ask_59 : decode cX2_ask 59 = .ok (.goto (-34), 3) := by decide +kernel
theorem dX2_ask_62 : decode cX2_ask 62 = .ok (.iload_n 1, 1) := by decide +kernel
theorem dX2_ask_63 : decode cX2_ask 63 = .ok (.ireturn, 1) := by decide +kernel
set_option maxRecDepth 20000 in
theorem ggX2_years_X1_take : GoodIn wsX2_years wsX1_take := goodIn_r _ [8, 9, 10, 11, 12, 7, 13, 107] (by decide +kernel) (by decide +kernel)
set_option maxRecDepth 20000 in
theorem gX2_years_X1_take : GoodIn wsX2_years (wsV RX2 180 RX1 yX1_take wsX1_take) := goodIn_app (goodIn_of _ (by decide +kernel)) ggX2_years_X1_take
set_option maxRecDepth 20000 in
theorem ggX2_years_X2_nextSeed : GoodIn wsX2_years wsX2_nextSeed := goodIn_r _ [17, 18, 19, 20] (by decide +kernel) (by decide +kernel)
set_option maxRecDepth 20000 in
theorem gX2_years_X2_nextSeed : GoodIn wsX2_years (va_wsS RX2 183 yX2_nextSeed wsX2_nextSeed) := goodIn_app (goodIn_of _ (by decide +kernel)) ggX2_years_X2_nextSeed
set_option maxRecDepth 20000 in
theorem ggX2_years_X2_drawnHouse : GoodIn wsX2_years wsX2_drawnHouse := goodIn_r _ [24, 1, 25, 85, 86, 87, 88, 89, 90, 91, 92, 93, 94, 95] (by decide +kernel) (by decide +kernel)
set_option maxRecDepth 20000 in
theorem gX2_years_X2_drawnHouse : GoodIn wsX2_years (wsV RX2 186 RX2 yX2_drawnHouse wsX2_drawnHouse) := goodIn_app (goodIn_of _ (by decide +kernel)) ggX2_years_X2_drawnHouse
set_option maxRecDepth 20000 in
theorem ggX2_years_X2_bearIfMayBe : GoodIn wsX2_years wsX2_bearIfMayBe := goodIn_r _ [29, 30, 31, 11, 12, 7, 13, 9, 32, 33, 16, 34, 35, 36, 37, 38, 39, 40, 41, 42, 43, 44, 45, 46, 47, 48, 49, 50, 1, 85, 86, 87, 88, 89, 90, 91, 92, 93, 94, 95, 107] (by decide +kernel) (by decide +kernel)
set_option maxRecDepth 20000 in
theorem gX2_years_X2_bearIfMayBe : GoodIn wsX2_years (wsV RX2 189 RX2 yX2_bearIfMayBe wsX2_bearIfMayBe) := goodIn_app (goodIn_of _ (by decide +kernel)) ggX2_years_X2_bearIfMayBe
set_option maxRecDepth 20000 in
theorem ggX2_years_X2_lengthOfWalk : GoodIn wsX2_years wsX2_lengthOfWalk := goodIn_r _ [54, 1, 55, 56, 57, 58, 59, 60, 61, 16, 62, 63, 64, 65, 66, 67, 68, 69, 70, 30, 31, 11, 12, 7, 13, 9, 71, 72, 73, 85, 86, 87, 88, 89, 90, 91, 92, 93, 94, 95, 107] (by decide +kernel) (by decide +kernel)
set_option maxRecDepth 20000 in
theorem gX2_years_X2_lengthOfWalk : GoodIn wsX2_years (wsV RX2 135 RX2 yX2_lengthOfWalk wsX2_lengthOfWalk) := goodIn_app (goodIn_of _ (by decide +kernel)) ggX2_years_X2_lengthOfWalk
set_option maxRecDepth 20000 in
theorem ggX2_years_X2_growOlder : GoodIn wsX2_years wsX2_growOlder := goodIn_r _ [77, 1, 30, 31, 11, 12, 7, 13, 9, 78, 79, 16, 80, 39, 40, 41, 42, 85, 86, 87, 88, 89, 90, 91, 92, 93, 94, 95, 107] (by decide +kernel) (by decide +kernel)
set_option maxRecDepth 20000 in
theorem gX2_years_X2_growOlder : GoodIn wsX2_years (wsV RX2 122 RX2 yX2_growOlder wsX2_growOlder) := goodIn_app (goodIn_of _ (by decide +kernel)) ggX2_years_X2_growOlder
set_option maxRecDepth 20000 in
theorem ggX2_years_X2_allNumbers : GoodIn wsX2_years wsX2_allNumbers := goodIn_r _ [84, 1, 67, 68, 69, 16, 70, 30, 31, 11, 12, 7, 13, 9, 71, 72, 73, 85, 86, 87, 88, 89, 90, 91, 92, 93, 94, 95, 107] (by decide +kernel) (by decide +kernel)
set_option maxRecDepth 20000 in
theorem gX2_years_X2_allNumbers : GoodIn wsX2_years (wsV RX2 192 RX2 yX2_allNumbers wsX2_allNumbers) := goodIn_app (goodIn_of _ (by decide +kernel)) ggX2_years_X2_allNumbers
theorem dX2_years_0 : decode cX2_years 0 = .ok (.iload_n 1, 1) := by decide +kernel
theorem dX2_years_1 : decode cX2_years 1 = .ok (.iconst 1, 1) := by decide +kernel
theorem dX2_years_2 : decode cX2_years 2 = .ok (.if_icmp .lt 22, 3) := by decide +kernel
theorem dX2_years_5 : decode cX2_years 5 = .ok (.iload_n 1, 1) := by decide +kernel
theorem dX2_years_6 : decode cX2_years 6 = .ok (.bipush 60, 2) := by decide +kernel
theorem dX2_years_8 : decode cX2_years 8 = .ok (.if_icmp .gt 16, 3) := by decide +kernel
theorem dX2_years_11 : decode cX2_years 11 = .ok (.iload_n 2, 1) := by decide +kernel
theorem dX2_years_12 : decode cX2_years 12 = .ok (.ifCond .lt 12, 3) := by decide +kernel
theorem dX2_years_15 : decode cX2_years 15 = .ok (.iload_n 3, 1) := by decide +kernel
theorem dX2_years_16 : decode cX2_years 16 = .ok (.ifCond .lt 8, 3) := by decide +kernel
theorem dX2_years_19 : decode cX2_years 19 = .ok (.iload_n 3, 1) := by decide +kernel
theorem dX2_years_20 : decode cX2_years 20 = .ok (.iconst 2, 1) := by decide +kernel
theorem dX2_years_21 : decode cX2_years 21 = .ok (.if_icmp .le 6, 3) := by decide +kernel
theorem dX2_years_24 : decode cX2_years 24 = .ok (.bipush (-102), 2) := by decide +kernel
theorem dX2_years_26 : decode cX2_years 26 = .ok (.ireturn, 1) := by decide +kernel
theorem dX2_years_27 : decode cX2_years 27 = .ok (.aload_n 0, 1) := by decide +kernel
theorem dX2_years_28 : decode cX2_years 28 = .ok (.getfield 22, 3) := by decide +kernel
theorem dX2_years_31 : decode cX2_years 31 = .ok (.ifCond .ne 6, 3) := by decide +kernel
theorem dX2_years_34 : decode cX2_years 34 = .ok (.bipush (-103), 2) := by decide +kernel
theorem dX2_years_36 : decode cX2_years 36 = .ok (.ireturn, 1) := by decide +kernel
theorem dX2_years_37 : decode cX2_years 37 = .ok (.aload_n 0, 1) := by decide +kernel
theorem dX2_years_38 : decode cX2_years 38 = .ok (.getfield 45, 3) := by decide +kernel
theorem dX2_years_41 : decode cX2_years 41 = .ok (.aload_n 0, 1) := by decide +kernel
theorem dX2_years_42 : decode cX2_years 42 = .ok (.getfield 34, 3) := by decide +kernel
theorem dX2_years_45 : decode cX2_years 45 = .ok (.getfield 76, 3) := by decide +kernel
theorem dX2_years_48 : decode cX2_years 48 = .ok (.invokevirtual 180, 3) := by decide +kernel
theorem dX2_years_51 : decode cX2_years 51 = .ok (.iload_n 2, 1) := by decide +kernel
theorem dX2_years_52 : decode cX2_years 52 = .ok (.istore 4, 2) := by decide +kernel
theorem dX2_years_54 : decode cX2_years 54 = .ok (.iconst 0, 1) := by decide +kernel
theorem dX2_years_55 : decode cX2_years 55 = .ok (.istore 5, 2) := by decide +kernel
theorem dX2_years_57 : decode cX2_years 57 = .ok (.iconst 0, 1) := by decide +kernel
theorem dX2_years_58 : decode cX2_years 58 = .ok (.istore 6, 2) := by decide +kernel
theorem dX2_years_60 : decode cX2_years 60 = .ok (.iload 6, 2) := by decide +kernel
theorem dX2_years_62 : decode cX2_years 62 = .ok (.iload_n 1, 1) := by decide +kernel
theorem dX2_years_63 : decode cX2_years 63 = .ok (.if_icmp .ge 51, 3) := by decide +kernel
theorem dX2_years_66 : decode cX2_years 66 = .ok (.iload 4, 2) := by decide +kernel
theorem dX2_years_68 : decode cX2_years 68 = .ok (.invokestatic 183, 3) := by decide +kernel
theorem dX2_years_71 : decode cX2_years 71 = .ok (.istore 4, 2) := by decide +kernel
theorem dX2_years_73 : decode cX2_years 73 = .ok (.aload_n 0, 1) := by decide +kernel
theorem dX2_years_74 : decode cX2_years 74 = .ok (.aload_n 0, 1) := by decide +kernel
theorem dX2_years_75 : decode cX2_years 75 = .ok (.getfield 45, 3) := by decide +kernel
theorem dX2_years_78 : decode cX2_years 78 = .ok (.aload_n 0, 1) := by decide +kernel
theorem dX2_years_79 : decode cX2_years 79 = .ok (.iload 4, 2) := by decide +kernel
theorem dX2_years_81 : decode cX2_years 81 = .ok (.invokevirtual 186, 3) := by decide +kernel
theorem dX2_years_84 : decode cX2_years 84 = .ok (.invokevirtual 189, 3) := by decide +kernel
theorem dX2_years_87 : decode cX2_years 87 = .ok (.iload 5, 2) := by decide +kernel
theorem dX2_years_89 : decode cX2_years 89 = .ok (.aload_n 0, 1) := by decide +kernel
theorem dX2_years_90 : decode cX2_years 90 = .ok (.aload_n 0, 1) := by decide +kernel
theorem dX2_years_91 : decode cX2_years 91 = .ok (.getfield 45, 3) := by decide +kernel
theorem dX2_years_94 : decode cX2_years 94 = .ok (.invokevirtual 135, 3) := by decide +kernel
theorem dX2_years_97 : decode cX2_years 97 = .ok (.iadd, 1) := by decide +kernel
theorem dX2_years_98 : decode cX2_years 98 = .ok (.istore 5, 2) := by decide +kernel
theorem dX2_years_100 : decode cX2_years 100 = .ok (.aload_n 0, 1) := by decide +kernel
theorem dX2_years_101 : decode cX2_years 101 = .ok (.aload_n 0, 1) := by decide +kernel
theorem dX2_years_102 : decode cX2_years 102 = .ok (.getfield 45, 3) := by decide +kernel
theorem dX2_years_105 : decode cX2_years 105 = .ok (.invokevirtual 122, 3) := by decide +kernel
theorem dX2_years_108 : decode cX2_years 108 = .ok (.iinc 6 1, 3) := by decide +kernel
theorem dX2_years_111 : decode cX2_years 111 = .ok (.goto (-51), 3) := by decide +kernel
theorem dX2_years_114 : decode cX2_years 114 = .ok (.iload_n 3, 1) := by decide +kernel
theorem dX2_years_115 : decode cX2_years 115 = .ok (.ifCond .ne 6, 3) := by decide +kernel
theorem dX2_years_118 : decode cX2_years 118 = .ok (.iload 5, 2) := by decide +kernel
theorem dX2_years_120 : decode cX2_years 120 = .ok (.ireturn, 1) := by decide +kernel
theorem dX2_years_121 : decode cX2_years 121 = .ok (.iload_n 3, 1) := by decide +kernel
theorem dX2_years_122 : decode cX2_years 122 = .ok (.iconst 1, 1) := by decide +kernel
theorem dX2_years_123 : decode cX2_years 123 = .ok (.if_icmp .ne 14, 3) := by decide +kernel
theorem dX2_years_126 : decode cX2_years 126 = .ok (.aload_n 0, 1) := by decide +kernel
theorem dX2_years_127 : decode cX2_years 127 = .ok (.aload_n 0, 1) := by decide +kernel
theorem dX2_years_128 : decode cX2_years 128 = .ok (.getfield 45, 3) := by decide +kernel
theorem dX2_years_131 : decode cX2_years 131 = .ok (.invokevirtual 192, 3) := by decide +kernel
theorem dX2_years_134 : decode cX2_years 134 = .ok (.goto 5, 3) := by decide +kernel
theorem dX2_years_137 : decode cX2_years 137 = .ok (.iload 4, 2) := by decide +kernel
theorem dX2_years_139 : decode cX2_years 139 = .ok (.ireturn, 1) := by decide +kernel
set_option maxRecDepth 20000 in
theorem ggX2_image_X0_take : GoodIn wsX2_image wsX0_take := goodIn_r _ [9, 10, 11, 12, 13, 14, 15, 16, 17, 18, 19, 20, 21, 22, 23, 24, 25, 26, 27, 28, 29, 30, 42, 43, 44, 45, 46, 47, 48, 49, 50, 51, 52, 53] (by decide +kernel) (by decide +kernel)
set_option maxRecDepth 20000 in
theorem gX2_image_X0_take : GoodIn wsX2_image (wsV RX2 195 RX0 yX0_take wsX0_take) := goodIn_app (goodIn_of _ (by decide +kernel)) ggX2_image_X0_take
theorem dX2_image_0 : decode cX2_image 0 = .ok (.aload_n 0, 1) := by decide +kernel
theorem dX2_image_1 : decode cX2_image 1 = .ok (.getfield 22, 3) := by decide +kernel
theorem dX2_image_4 : decode cX2_image 4 = .ok (.ifCond .ne 6, 3) := by decide +kernel
theorem dX2_image_7 : decode cX2_image 7 = .ok (.bipush (-103), 2) := by decide +kernel
theorem dX2_image_9 : decode cX2_image 9 = .ok (.ireturn, 1) := by decide +kernel
theorem dX2_image_10 : decode cX2_image 10 = .ok (.aload_n 0, 1) := by decide +kernel
theorem dX2_image_11 : decode cX2_image 11 = .ok (.getfield 38, 3) := by decide +kernel
theorem dX2_image_14 : decode cX2_image 14 = .ok (.aload_n 0, 1) := by decide +kernel
theorem dX2_image_15 : decode cX2_image 15 = .ok (.getfield 34, 3) := by decide +kernel
theorem dX2_image_18 : decode cX2_image 18 = .ok (.invokevirtual 195, 3) := by decide +kernel
theorem dX2_image_21 : decode cX2_image 21 = .ok (.aload_n 0, 1) := by decide +kernel
theorem dX2_image_22 : decode cX2_image 22 = .ok (.iconst 1, 1) := by decide +kernel
theorem dX2_image_23 : decode cX2_image 23 = .ok (.putfield 41, 3) := by decide +kernel
theorem dX2_image_26 : decode cX2_image 26 = .ok (.aload_n 0, 1) := by decide +kernel
theorem dX2_image_27 : decode cX2_image 27 = .ok (.getfield 34, 3) := by decide +kernel
theorem dX2_image_30 : decode cX2_image 30 = .ok (.getfield 112, 3) := by decide +kernel
theorem dX2_image_33 : decode cX2_image 33 = .ok (.ireturn, 1) := by decide +kernel
set_option maxRecDepth 20000 in
theorem ggX2_restore_X0_take : GoodIn wsX2_restore wsX0_take := goodIn_r _ [8, 9, 10, 11, 12, 13, 14, 15, 16, 17, 18, 19, 20, 21, 22, 23, 24, 25, 26, 27, 28, 29, 41, 42, 43, 44, 45, 46, 47, 48, 49, 50, 51, 52] (by decide +kernel) (by decide +kernel)
set_option maxRecDepth 20000 in
theorem gX2_restore_X0_take : GoodIn wsX2_restore (wsV RX2 195 RX0 yX0_take wsX0_take) := goodIn_app (goodIn_of _ (by decide +kernel)) ggX2_restore_X0_take
theorem dX2_restore_0 : decode cX2_restore 0 = .ok (.aload_n 0, 1) := by decide +kernel
theorem dX2_restore_1 : decode cX2_restore 1 = .ok (.getfield 41, 3) := by decide +kernel
theorem dX2_restore_4 : decode cX2_restore 4 = .ok (.ifCond .ne 6, 3) := by decide +kernel
theorem dX2_restore_7 : decode cX2_restore 7 = .ok (.bipush (-103), 2) := by decide +kernel
theorem dX2_restore_9 : decode cX2_restore 9 = .ok (.ireturn, 1) := by decide +kernel
theorem dX2_restore_10 : decode cX2_restore 10 = .ok (.aload_n 0, 1) := by decide +kernel
theorem dX2_restore_11 : decode cX2_restore 11 = .ok (.getfield 34, 3) := by decide +kernel
theorem dX2_restore_14 : decode cX2_restore 14 = .ok (.aload_n 0, 1) := by decide +kernel
theorem dX2_restore_15 : decode cX2_restore 15 = .ok (.getfield 38, 3) := by decide +kernel
theorem dX2_restore_18 : decode cX2_restore 18 = .ok (.invokevirtual 195, 3) := by decide +kernel
theorem dX2_restore_21 : decode cX2_restore 21 = .ok (.aload_n 0, 1) := by decide +kernel
theorem dX2_restore_22 : decode cX2_restore 22 = .ok (.getfield 34, 3) := by decide +kernel
theorem dX2_restore_25 : decode cX2_restore 25 = .ok (.getfield 112, 3) := by decide +kernel
theorem dX2_restore_28 : decode cX2_restore 28 = .ok (.ireturn, 1) := by decide +kernel
set_option maxRecDepth 20000 in
theorem ggX2_count_X2_allNumbers : GoodIn wsX2_count wsX2_allNumbers := goodIn_r _ [9, 1, 10, 11, 12, 8, 13, 14, 15, 16, 17, 18, 19, 20, 21, 22, 23, 51, 52, 53, 54, 55, 56, 57, 58, 59, 60, 61, 73] (by decide +kernel) (by decide +kernel)
set_option maxRecDepth 20000 in
theorem gX2_count_X2_allNumbers : GoodIn wsX2_count (wsV RX2 192 RX2 yX2_allNumbers wsX2_allNumbers) := goodIn_app (goodIn_of _ (by decide +kernel)) ggX2_count_X2_allNumbers
set_option maxRecDepth 20000 in
theorem ggX2_count_X2_unlikeNumbers : GoodIn wsX2_count wsX2_unlikeNumbers := goodIn_r _ [27, 1, 2, 28, 29, 30, 8, 31, 10, 11, 12, 13, 14, 15, 16, 17, 18, 19, 20, 21, 22, 23, 32, 33, 34, 35, 36, 37, 38, 39, 40, 41, 42, 51, 52, 53, 54, 55, 56, 57, 58, 59, 60, 61, 62, 63, 64, 65, 66, 67, 68, 69, 70, 71, 72, 73] (by decide +kernel) (by decide +kernel)
set_option maxRecDepth 20000 in
theorem gX2_count_X2_unlikeNumbers : GoodIn wsX2_count (wsV RX2 198 RX2 yX2_unlikeNumbers wsX2_unlikeNumbers) := goodIn_app (goodIn_of _ (by decide +kernel)) ggX2_count_X2_unlikeNumbers
set_option maxRecDepth 20000 in
theorem ggX2_count_X2_owedByAll : GoodIn wsX2_count wsX2_owedByAll := goodIn_r _ [46, 1, 47, 48, 49, 8, 50, 2, 15, 16, 17, 18, 19, 20, 32, 33, 34, 35, 36, 37, 38, 39, 14, 40, 41, 42, 21, 22, 23, 51, 52, 53, 54, 55, 56, 57, 58, 59, 60, 61, 62, 63, 64, 65, 66, 67, 68, 69, 70, 71, 72, 73] (by decide +kernel) (by decide +kernel)
set_option maxRecDepth 20000 in
theorem gX2_count_X2_owedByAll : GoodIn wsX2_count (wsV RX2 201 RX2 yX2_owedByAll wsX2_owedByAll) := goodIn_app (goodIn_of _ (by decide +kernel)) ggX2_count_X2_owedByAll
theorem dX2_count_0 : decode cX2_count 0 = .ok (.iload_n 1, 1) := by decide +kernel
theorem dX2_count_1 : decode cX2_count 1 = .ok (.tableswitch 124 0 9 #[55, 60, 68, 76, 88, 93, 101, 106, 114, 119], 55) := by decide +kernel
theorem dX2_count_56 : decode cX2_count 56 = .ok (.aload_n 0, 1) := by decide +kernel
theorem dX2_count_57 : decode cX2_count 57 = .ok (.getfield 22, 3) := by decide +kernel
theorem dX2_count_60 : decode cX2_count 60 = .ok (.ireturn, 1) := by decide +kernel
theorem dX2_count_61 : decode cX2_count 61 = .ok (.aload_n 0, 1) := by decide +kernel
theorem dX2_count_62 : decode cX2_count 62 = .ok (.getfield 34, 3) := by decide +kernel
theorem dX2_count_65 : decode cX2_count 65 = .ok (.getfield 112, 3) := by decide +kernel
theorem dX2_count_68 : decode cX2_count 68 = .ok (.ireturn, 1) := by decide +kernel
theorem dX2_count_69 : decode cX2_count 69 = .ok (.aload_n 0, 1) := by decide +kernel
theorem dX2_count_70 : decode cX2_count 70 = .ok (.getfield 34, 3) := by decide +kernel
theorem dX2_count_73 : decode cX2_count 73 = .ok (.getfield 103, 3) := by decide +kernel
theorem dX2_count_76 : decode cX2_count 76 = .ok (.ireturn, 1) := by decide +kernel
theorem dX2_count_77 : decode cX2_count 77 = .ok (.aload_n 0, 1) := by decide +kernel
theorem dX2_count_78 : decode cX2_count 78 = .ok (.aload_n 0, 1) := by decide +kernel
theorem dX2_count_79 : decode cX2_count 79 = .ok (.getfield 34, 3) := by decide +kernel
theorem dX2_count_82 : decode cX2_count 82 = .ok (.getfield 76, 3) := by decide +kernel
theorem dX2_count_85 : decode cX2_count 85 = .ok (.invokevirtual 192, 3) := by decide +kernel
theorem dX2_count_88 : decode cX2_count 88 = .ok (.ireturn, 1) := by decide +kernel
theorem dX2_count_89 : decode cX2_count 89 = .ok (.aload_n 0, 1) := by decide +kernel
theorem dX2_count_90 : decode cX2_count 90 = .ok (.invokevirtual 198, 3) := by decide +kernel
theorem dX2_count_93 : decode cX2_count 93 = .ok (.ireturn, 1) := by decide +kernel
theorem dX2_count_94 : decode cX2_count 94 = .ok (.aload_n 0, 1) := by decide +kernel
theorem dX2_count_95 : decode cX2_count 95 = .ok (.getfield 34, 3) := by decide +kernel
theorem dX2_count_98 : decode cX2_count 98 = .ok (.getfield 139, 3) := by decide +kernel
theorem dX2_count_101 : decode cX2_count 101 = .ok (.ireturn, 1) := by decide +kernel
theorem dX2_count_102 : decode cX2_count 102 = .ok (.aload_n 0, 1) := by decide +kernel
theorem dX2_count_103 : decode cX2_count 103 = .ok (.invokevirtual 201, 3) := by decide +kernel
theorem dX2_count_106 : decode cX2_count 106 = .ok (.ireturn, 1) := by decide +kernel
theorem dX2_count_107 : decode cX2_count 107 = .ok (.aload_n 0, 1) := by decide +kernel
theorem dX2_count_108 : decode cX2_count 108 = .ok (.getfield 34, 3) := by decide +kernel
theorem dX2_count_111 : decode cX2_count 111 = .ok (.getfield 162, 3) := by decide +kernel
theorem dX2_count_114 : decode cX2_count 114 = .ok (.ireturn, 1) := by decide +kernel
theorem dX2_count_115 : decode cX2_count 115 = .ok (.aload_n 0, 1) := by decide +kernel
theorem dX2_count_116 : decode cX2_count 116 = .ok (.getfield 18, 3) := by decide +kernel
theorem dX2_count_119 : decode cX2_count 119 = .ok (.ireturn, 1) := by decide +kernel
theorem dX2_count_120 : decode cX2_count 120 = .ok (.aload_n 0, 1) := by decide +kernel
theorem dX2_count_121 : decode cX2_count 121 = .ok (.getfield 25, 3) := by decide +kernel
theorem dX2_count_124 : decode cX2_count 124 = .ok (.ireturn, 1) := by decide +kernel
theorem dX2_count_125 : decode cX2_count 125 = .ok (.bipush (-102), 2) := by decide +kernel
theorem dX2_count_127 : decode cX2_count 127 = .ok (.ireturn, 1) := by decide +kernel
set_option maxRecDepth 20000 in
theorem ggX2_digest_X2_withHouse : GoodIn wsX2_digest wsX2_withHouse := goodIn_r _ [9, 10, 11, 12, 13, 8, 14, 15, 16, 17, 18, 19, 2, 20, 21, 22, 23, 24, 25, 26, 27, 28, 29, 30, 31, 32, 33, 34, 35, 36, 37, 38, 39, 40, 41, 42, 43, 44, 45, 46, 47, 48, 49, 50, 51, 52, 53, 54, 55, 56, 57, 58, 59, 174, 175, 176, 177, 178, 179, 180, 181, 182, 183, 184, 185, 186, 187, 188, 189, 190, 191, 192, 193, 194, 195, 196] (by decide +kernel) (by decide +kernel)
set_option maxRecDepth 20000 in
theorem gX2_digest_X2_withHouse : GoodIn wsX2_digest (wsV RX2 206 RX2 yX2_withHouse wsX2_withHouse) := goodIn_app (goodIn_of _ (by decide +kernel)) ggX2_digest_X2_withHouse
set_option maxRecDepth 20000 in
theorem ggX2_digest_X2_walk : GoodIn wsX2_digest wsX2_walk := goodIn_r _ [63, 2, 10, 64, 65, 66, 8, 67, 68, 69, 70, 71, 72, 73, 74, 75, 52, 53, 54, 55, 30, 31, 32, 33, 15, 20, 21, 22, 23, 24, 25, 34, 35, 36, 174, 175, 176, 177, 178, 179, 180, 181, 182, 183, 184, 185, 186, 187, 188, 189, 190, 191, 192, 193, 194, 195, 196] (by decide +kernel) (by decide +kernel)
set_option maxRecDepth 20000 in
theorem gX2_digest_X2_walk : GoodIn wsX2_digest (wsV RX2 210 RX2 yX2_walk wsX2_walk) := goodIn_app (goodIn_of _ (by decide +kernel)) ggX2_digest_X2_walk
set_option maxRecDepth 20000 in
theorem ggX2_digest_X2_with : GoodIn wsX2_digest wsX2_with := goodIn_r _ [58, 59] (by decide +kernel) (by decide +kernel)
set_option maxRecDepth 20000 in
theorem gX2_digest_X2_with : GoodIn wsX2_digest (va_wsS RX2 213 yX2_with wsX2_with) := goodIn_app (goodIn_of _ (by decide +kernel)) ggX2_digest_X2_with
set_option maxRecDepth 20000 in
theorem ggX2_digest_X2_cheap : GoodIn wsX2_digest wsX2_cheap := goodIn_r _ [79, 2, 80, 81, 82, 8, 83, 84, 85, 86, 87, 88, 89, 90, 91, 92, 93, 94, 15, 95, 96, 97, 20, 21, 22, 23, 24, 25, 98, 99, 100, 101, 102, 103, 104, 105, 10, 106, 107, 108, 109, 110, 111, 112, 113, 114, 115, 116, 117, 118, 119, 120, 121, 122, 16, 17, 18, 19, 123, 124, 125, 126, 30, 31, 32, 33, 34, 35, 36, 174, 175, 176, 177, 178, 179, 180, 181, 182, 183, 184, 196, 185, 186, 187, 188, 189, 190, 191, 192, 193, 194, 195] (by decide +kernel) (by decide +kernel)
set_option maxRecDepth 20000 in
theorem gX2_digest_X2_cheap : GoodIn wsX2_digest (wsV RX2 216 RX2 yX2_cheap wsX2_cheap) := goodIn_app (goodIn_of _ (by decide +kernel)) ggX2_digest_X2_cheap
set_option maxRecDepth 20000 in
theorem ggX2_digest_X2_days : GoodIn wsX2_digest wsX2_days := goodIn_r _ [130, 2, 10, 131, 132, 133, 8, 134, 20, 21, 22, 23, 24, 25, 45, 46, 47, 48, 15, 49, 50, 51, 34, 35, 36, 174, 175, 176, 177, 178, 179, 180, 181, 182, 183, 184, 185, 186, 187, 188, 189, 190, 191, 192, 193, 194, 195, 196] (by decide +kernel) (by decide +kernel)
set_option maxRecDepth 20000 in
theorem gX2_digest_X2_days : GoodIn wsX2_digest (wsV RX2 219 RX2 yX2_days wsX2_days) := goodIn_app (goodIn_of _ (by decide +kernel)) ggX2_digest_X2_days
set_option maxRecDepth 20000 in
theorem ggX2_digest_X2_ask : GoodIn wsX2_digest wsX2_ask := goodIn_r _ [138, 2, 139, 140, 141, 8, 142, 10, 143, 131, 132, 133, 134, 20, 21, 22, 23, 24, 25, 45, 46, 47, 48, 15, 49, 50, 51, 34, 35, 36, 115, 116, 117, 118, 144, 145, 146, 147, 148, 149, 150, 70, 151, 152, 153, 154, 155, 156, 157, 158, 159, 110, 160, 174, 175, 176, 177, 178, 179, 180, 181, 182, 183, 184, 185, 186, 187, 188, 189, 190, 191, 192, 193, 194, 195, 196] (by decide +kernel) (by decide +kernel)
set_option maxRecDepth 20000 in
theorem gX2_digest_X2_ask : GoodIn wsX2_digest (wsV RX2 222 RX2 yX2_ask wsX2_ask) := goodIn_app (goodIn_of _ (by decide +kernel)) ggX2_digest_X2_ask
set_option maxRecDepth 20000 in
theorem ggX2_digest_X1_at : GoodIn wsX2_digest wsX1_at := goodIn_r _ [24, 25, 196] (by decide +kernel) (by decide +kernel)
set_option maxRecDepth 20000 in
theorem gX2_digest_X1_at : GoodIn wsX2_digest (wsV RX2 58 RX1 yX1_at wsX1_at) := goodIn_app (goodIn_of _ (by decide +kernel)) ggX2_digest_X1_at
set_option maxRecDepth 20000 in
theorem ggX2_digest_X2_count : GoodIn wsX2_digest wsX2_count := goodIn_r _ [164, 2, 10, 3, 165, 123, 124, 125, 8, 126, 30, 31, 32, 33, 15, 20, 21, 22, 23, 24, 25, 34, 35, 36, 166, 167, 168, 169, 26, 27, 28, 29, 41, 42, 43, 44, 45, 46, 47, 48, 49, 50, 51, 170, 171, 172, 173, 37, 38, 39, 40, 174, 175, 176, 177, 178, 179, 180, 181, 182, 183, 184, 185, 186, 187, 188, 189, 190, 191, 192, 193, 194, 195, 196] (by decide +kernel) (by decide +kernel)
set_option maxRecDepth 20000 in
theorem gX2_digest_X2_count : GoodIn wsX2_digest (wsV RX2 225 RX2 yX2_count wsX2_count) := goodIn_app (goodIn_of _ (by decide +kernel)) ggX2_digest_X2_count
theorem dX2_digest_0 : decode cX2_digest 0 = .ok (.ldc2_w 204, 3) := by decide +kernel
theorem dX2_digest_3 : decode cX2_digest 3 = .ok (.lstore_n 1, 1) := by decide +kernel
theorem dX2_digest_4 : decode cX2_digest 4 = .ok (.iconst 0, 1) := by decide +kernel
theorem dX2_digest_5 : decode cX2_digest 5 = .ok (.istore_n 3, 1) := by decide +kernel
theorem dX2_digest_6 : decode cX2_digest 6 = .ok (.iload_n 3, 1) := by decide +kernel
theorem dX2_digest_7 : decode cX2_digest 7 = .ok (.aload_n 0, 1) := by decide +kernel
theorem dX2_digest_8 : decode cX2_digest 8 = .ok (.getfield 22, 3) := by decide +kernel
theorem dX2_digest_11 : decode cX2_digest 11 = .ok (.if_icmp .ge 16, 3) := by decide +kernel
theorem dX2_digest_14 : decode cX2_digest 14 = .ok (.aload_n 0, 1) := by decide +kernel
theorem dX2_digest_15 : decode cX2_digest 15 = .ok (.lload_n 1, 1) := by decide +kernel
theorem dX2_digest_16 : decode cX2_digest 16 = .ok (.iload_n 3, 1) := by decide +kernel
theorem dX2_digest_17 : decode cX2_digest 17 = .ok (.invokevirtual 206, 3) := by decide +kernel
theorem dX2_digest_20 : decode cX2_digest 20 = .ok (.lstore_n 1, 1) := by decide +kernel
theorem dX2_digest_21 : decode cX2_digest 21 = .ok (.iinc 3 1, 3) := by decide +kernel
theorem dX2_digest_24 : decode cX2_digest 24 = .ok (.goto (-18), 3) := by decide +kernel
theorem dX2_digest_27 : decode cX2_digest 27 = .ok (.aload_n 0, 1) := by decide +kernel
theorem dX2_digest_28 : decode cX2_digest 28 = .ok (.getfield 22, 3) := by decide +kernel
theorem dX2_digest_31 : decode cX2_digest 31 = .ok (.ifCond .le 65, 3) := by decide +kernel
theorem dX2_digest_34 : decode cX2_digest 34 = .ok (.lload_n 1, 1) := by decide +kernel
theorem dX2_digest_35 : decode cX2_digest 35 = .ok (.aload_n 0, 1) := by decide +kernel
theorem dX2_digest_36 : decode cX2_digest 36 = .ok (.invokevirtual 210, 3) := by decide +kernel
theorem dX2_digest_39 : decode cX2_digest 39 = .ok (.invokestatic 213, 3) := by decide +kernel
theorem dX2_digest_42 : decode cX2_digest 42 = .ok (.lstore_n 1, 1) := by decide +kernel
theorem dX2_digest_43 : decode cX2_digest 43 = .ok (.lload_n 1, 1) := by decide +kernel
theorem dX2_digest_44 : decode cX2_digest 44 = .ok (.aload_n 0, 1) := by decide +kernel
theorem dX2_digest_45 : decode cX2_digest 45 = .ok (.bipush 9, 2) := by decide +kernel
theorem dX2_digest_47 : decode cX2_digest 47 = .ok (.iconst 0, 1) := by decide +kernel
theorem dX2_digest_48 : decode cX2_digest 48 = .ok (.invokevirtual 216, 3) := by decide +kernel
theorem dX2_digest_51 : decode cX2_digest 51 = .ok (.invokestatic 213, 3) := by decide +kernel
theorem dX2_digest_54 : decode cX2_digest 54 = .ok (.lstore_n 1, 1) := by decide +kernel
theorem dX2_digest_55 : decode cX2_digest 55 = .ok (.lload_n 1, 1) := by decide +kernel
theorem dX2_digest_56 : decode cX2_digest 56 = .ok (.aload_n 0, 1) := by decide +kernel
theorem dX2_digest_57 : decode cX2_digest 57 = .ok (.bipush 9, 2) := by decide +kernel
theorem dX2_digest_59 : decode cX2_digest 59 = .ok (.iconst 1, 1) := by decide +kernel
theorem dX2_digest_60 : decode cX2_digest 60 = .ok (.invokevirtual 216, 3) := by decide +kernel
theorem dX2_digest_63 : decode cX2_digest 63 = .ok (.invokestatic 213, 3) := by decide +kernel
theorem dX2_digest_66 : decode cX2_digest 66 = .ok (.lstore_n 1, 1) := by decide +kernel
theorem dX2_digest_67 : decode cX2_digest 67 = .ok (.lload_n 1, 1) := by decide +kernel
theorem dX2_digest_68 : decode cX2_digest 68 = .ok (.aload_n 0, 1) := by decide +kernel
theorem dX2_digest_69 : decode cX2_digest 69 = .ok (.iconst 0, 1) := by decide +kernel
theorem dX2_digest_70 : decode cX2_digest 70 = .ok (.invokevirtual 219, 3) := by decide +kernel
theorem dX2_digest_73 : decode cX2_digest 73 = .ok (.invokestatic 213, 3) := by decide +kernel
theorem dX2_digest_76 : decode cX2_digest 76 = .ok (.lstore_n 1, 1) := by decide +kernel
theorem dX2_digest_77 : decode cX2_digest 77 = .ok (.lload_n 1, 1) := by decide +kernel
theorem dX2_digest_78 : decode cX2_digest 78 = .ok (.aload_n 0, 1) := by decide +kernel
theorem dX2_digest_79 : decode cX2_digest 79 = .ok (.iconst 1, 1) := by decide +kernel
theorem dX2_digest_80 : decode cX2_digest 80 = .ok (.invokevirtual 219, 3) := by decide +kernel
theorem dX2_digest_83 : decode cX2_digest 83 = .ok (.invokestatic 213, 3) := by decide +kernel
theorem dX2_digest_86 : decode cX2_digest 86 = .ok (.lstore_n 1, 1) := by decide +kernel
theorem dX2_digest_87 : decode cX2_digest 87 = .ok (.lload_n 1, 1) := by decide +kernel
theorem dX2_digest_88 : decode cX2_digest 88 = .ok (.aload_n 0, 1) := by decide +kernel
theorem dX2_digest_89 : decode cX2_digest 89 = .ok (.invokevirtual 222, 3) := by decide +kernel
theorem dX2_digest_92 : decode cX2_digest 92 = .ok (.invokestatic 213, 3) := by decide +kernel
theorem dX2_digest_95 : decode cX2_digest 95 = .ok (.lstore_n 1, 1) := by decide +kernel
theorem dX2_digest_96 : decode cX2_digest 96 = .ok (.iconst 0, 1) := by decide +kernel
theorem dX2_digest_97 : decode cX2_digest 97 = .ok (.istore_n 3, 1) := by decide +kernel
theorem dX2_digest_98 : decode cX2_digest 98 = .ok (.iload_n 3, 1) := by decide +kernel
theorem dX2_digest_99 : decode cX2_digest 99 = .ok (.aload_n 0, 1) := by decide +kernel
theorem dX2_digest_100 : decode cX2_digest 100 = .ok (.getfield 18, 3) := by decide +kernel
theorem dX2_digest_103 : decode cX2_digest 103 = .ok (.if_icmp .ge 22, 3) := by decide +kernel
theorem dX2_digest_106 : decode cX2_digest 106 = .ok (.lload_n 1, 1) := by decide +kernel
theorem dX2_digest_107 : decode cX2_digest 107 = .ok (.aload_n 0, 1) := by decide +kernel
theorem dX2_digest_108 : decode cX2_digest 108 = .ok (.getfield 14, 3) := by decide +kernel
theorem dX2_digest_111 : decode cX2_digest 111 = .ok (.iload_n 3, 1) := by decide +kernel
theorem dX2_digest_112 : decode cX2_digest 112 = .ok (.invokevirtual 58, 3) := by decide +kernel
theorem dX2_digest_115 : decode cX2_digest 115 = .ok (.invokestatic 213, 3) := by decide +kernel
theorem dX2_digest_118 : decode cX2_digest 118 = .ok (.lstore_n 1, 1) := by decide +kernel
theorem dX2_digest_119 : decode cX2_digest 119 = .ok (.iinc 3 1, 3) := by decide +kernel
theorem dX2_digest_122 : decode cX2_digest 122 = .ok (.goto (-24), 3) := by decide +kernel
theorem dX2_digest_125 : decode cX2_digest 125 = .ok (.iconst 0, 1) := by decide +kernel
theorem dX2_digest_126 : decode cX2_digest 126 = .ok (.istore_n 3, 1) := by decide +kernel
theorem dX2_digest_127 : decode cX2_digest 127 = .ok (.iload_n 3, 1) := by decide +kernel
theorem dX2_digest_128 : decode cX2_digest 128 = .ok (.bipush 9, 2) := by decide +kernel
theorem dX2_digest_130 : decode cX2_digest 130 = .ok (.if_icmp .gt 19, 3) := by decide +kernel
theorem dX2_digest_133 : decode cX2_digest 133 = .ok (.lload_n 1, 1) := by decide +kernel
theorem dX2_digest_134 : decode cX2_digest 134 = .ok (.aload_n 0, 1) := by decide +kernel
theorem dX2_digest_135 : decode cX2_digest 135 = .ok (.iload_n 3, 1) := by decide +kernel
theorem dX2_digest_136 : decode cX2_digest 136 = .ok (.invokevirtual 225, 3) := by decide +kernel
theorem dX2_digest_139 : decode cX2_digest 139 = .ok (.invokestatic 213, 3) := by decide +kernel
theorem dX2_digest_142 : decode cX2_digest 142 = .ok (.lstore_n 1, 1) := by decide +kernel
theorem dX2_digest_143 : decode cX2_digest 143 = .ok (.iinc 3 1, 3) := by decide +kernel
theorem dX2_digest_146 : decode cX2_digest 146 = .ok (.goto (-19), 3) := by decide +kernel
theorem dX2_digest_149 : decode cX2_digest 149 = .ok (.lload_n 1, 1) := by decide +kernel
theorem dX2_digest_150 : decode cX2_digest 150 = .ok (.lreturn, 1) := by decide +kernel
set_option maxRecDepth 20000 in
theorem ggX2_withHouse_X2_about : GoodIn wsX2_withHouse wsX2_about := goodIn_r _ [6, 7, 1, 8, 9, 10, 5, 11, 12, 13, 14, 15, 16, 17, 18, 19, 20, 21, 22, 23, 24, 25, 26, 27, 28, 29, 30, 31, 32, 33, 34, 35, 36, 37, 38, 39, 40, 41, 42, 43, 44, 45, 46, 47, 48, 53, 54, 55, 56, 57, 58, 59, 60, 61, 62, 63, 64, 65, 66, 67, 68, 69, 70, 71, 72, 73, 74, 75] (by decide +kernel) (by decide +kernel)
set_option maxRecDepth 20000 in
theorem gX2_withHouse_X2_about : GoodIn wsX2_withHouse (wsV RX2 228 RX2 yX2_about wsX2_about) := goodIn_app (goodIn_of _ (by decide +kernel)) ggX2_withHouse_X2_about
set_option maxRecDepth 20000 in
theorem ggX2_withHouse_X2_with : GoodIn wsX2_withHouse wsX2_with := goodIn_r _ [51, 52] (by decide +kernel) (by decide +kernel)
set_option maxRecDepth 20000 in
theorem gX2_withHouse_X2_with : GoodIn wsX2_withHouse (va_wsS RX2 213 yX2_with wsX2_with) := goodIn_app (goodIn_of _ (by decide +kernel)) ggX2_withHouse_X2_with
set_option maxRecDepth 20000 in
theorem ggX2_withHouse_X2_numberOn : GoodIn wsX2_withHouse wsX2_numberOn := goodIn_r _ [41, 1, 7, 13, 14, 15, 16, 17, 18, 42, 43, 5, 44, 27, 28, 29, 53, 54, 55, 56, 57, 58, 59, 60, 61, 62, 63, 64, 65, 66, 67, 68, 69, 70, 71, 72, 73, 74, 75] (by decide +kernel) (by decide +kernel)
set_option maxRecDepth 20000 in
theorem gX2_withHouse_X2_numberOn : GoodIn wsX2_withHouse (wsV RX2 129 RX2 yX2_numberOn wsX2_numberOn) := goodIn_app (goodIn_of _ (by decide +kernel)) ggX2_withHouse_X2_numberOn
theorem dX2_withHouse_0 : decode cX2_withHouse 0 = .ok (.lload_n 1, 1) := by decide +kernel
theorem dX2_withHouse_1 : decode cX2_withHouse 1 = .ok (.lstore 4, 2) := by decide +kernel
theorem dX2_withHouse_3 : decode cX2_withHouse 3 = .ok (.iconst 0, 1) := by decide +kernel
theorem dX2_withHouse_4 : decode cX2_withHouse 4 = .ok (.istore 6, 2) := by decide +kernel
theorem dX2_withHouse_6 : decode cX2_withHouse 6 = .ok (.iload 6, 2) := by decide +kernel
theorem dX2_withHouse_8 : decode cX2_withHouse 8 = .ok (.iconst 5, 1) := by decide +kernel
theorem dX2_withHouse_9 : decode cX2_withHouse 9 = .ok (.if_icmp .gt 23, 3) := by decide +kernel
theorem dX2_withHouse_12 : decode cX2_withHouse 12 = .ok (.lload 4, 2) := by decide +kernel
theorem dX2_withHouse_14 : decode cX2_withHouse 14 = .ok (.aload_n 0, 1) := by decide +kernel
theorem dX2_withHouse_15 : decode cX2_withHouse 15 = .ok (.iload_n 3, 1) := by decide +kernel
theorem dX2_withHouse_16 : decode cX2_withHouse 16 = .ok (.iload 6, 2) := by decide +kernel
theorem dX2_withHouse_18 : decode cX2_withHouse 18 = .ok (.invokevirtual 228, 3) := by decide +kernel
theorem dX2_withHouse_21 : decode cX2_withHouse 21 = .ok (.invokestatic 213, 3) := by decide +kernel
theorem dX2_withHouse_24 : decode cX2_withHouse 24 = .ok (.lstore 4, 2) := by decide +kernel
theorem dX2_withHouse_26 : decode cX2_withHouse 26 = .ok (.iinc 6 1, 3) := by decide +kernel
theorem dX2_withHouse_29 : decode cX2_withHouse 29 = .ok (.goto (-23), 3) := by decide +kernel
theorem dX2_withHouse_32 : decode cX2_withHouse 32 = .ok (.iconst 0, 1) := by decide +kernel
theorem dX2_withHouse_33 : decode cX2_withHouse 33 = .ok (.istore 6, 2) := by decide +kernel
theorem dX2_withHouse_35 : decode cX2_withHouse 35 = .ok (.iload 6, 2) := by decide +kernel
theorem dX2_withHouse_37 : decode cX2_withHouse 37 = .ok (.aload_n 0, 1) := by decide +kernel
theorem dX2_withHouse_38 : decode cX2_withHouse 38 = .ok (.getfield 34, 3) := by decide +kernel
theorem dX2_withHouse_41 : decode cX2_withHouse 41 = .ok (.getfield 112, 3) := by decide +kernel
theorem dX2_withHouse_44 : decode cX2_withHouse 44 = .ok (.if_icmp .gt 23, 3) := by decide +kernel
theorem dX2_withHouse_47 : decode cX2_withHouse 47 = .ok (.lload 4, 2) := by decide +kernel
theorem dX2_withHouse_49 : decode cX2_withHouse 49 = .ok (.aload_n 0, 1) := by decide +kernel
theorem dX2_withHouse_50 : decode cX2_withHouse 50 = .ok (.iload_n 3, 1) := by decide +kernel
theorem dX2_withHouse_51 : decode cX2_withHouse 51 = .ok (.iload 6, 2) := by decide +kernel
theorem dX2_withHouse_53 : decode cX2_withHouse 53 = .ok (.invokevirtual 129, 3) := by decide +kernel
theorem dX2_withHouse_56 : decode cX2_withHouse 56 = .ok (.invokestatic 213, 3) := by decide +kernel
theorem dX2_withHouse_59 : decode cX2_withHouse 59 = .ok (.lstore 4, 2) := by decide +kernel
theorem dX2_withHouse_61 : decode cX2_withHouse 61 = .ok (.iinc 6 1, 3) := by decide +kernel
theorem dX2_withHouse_64 : decode cX2_withHouse 64 = .ok (.goto (-29), 3) := by decide +kernel
theorem dX2_withHouse_67 : decode cX2_withHouse 67 = .ok (.lload 4, 2) := by decide +kernel
theorem dX2_withHouse_69 : decode cX2_withHouse 69 = .ok (.lreturn, 1) := by decide +kernel
theorem dX2_with_0 : decode cX2_with 0 = .ok (.ldc2_w 231, 3) := by decide +kernel
theorem dX2_with_3 : decode cX2_with 3 = .ok (.lload_n 0, 1) := by decide +kernel
theorem dX2_with_4 : decode cX2_with 4 = .ok (.lmul, 1) := by decide +kernel
theorem dX2_with_5 : decode cX2_with 5 = .ok (.iload_n 2, 1) := by decide +kernel
theorem dX2_with_6 : decode cX2_with 6 = .ok (.i2l, 1) := by decide +kernel
theorem dX2_with_7 : decode cX2_with 7 = .ok (.ladd, 1) := by decide +kernel
theorem dX2_with_8 : decode cX2_with 8 = .ok (.lreturn, 1) := by decide +kernel
set_option maxRecDepth 20000 in
theorem ggX2_canStandAt_X2_kindOfLetter : GoodIn wsX2_canStandAt wsX2_kindOfLetter := goodIn_r _ [4, 5, 6, 7, 8, 9, 10, 11, 12, 13, 14, 15, 16, 17, 18, 19, 20, 21, 22, 23, 24, 25, 26, 27, 28, 29, 30, 31, 32, 33, 34, 35, 36, 37, 38, 39, 40, 41, 42, 43, 44, 45, 46, 47, 48, 49, 50, 51, 52, 53] (by decide +kernel) (by decide +kernel)
set_option maxRecDepth 20000 in
theorem gX2_canStandAt_X2_kindOfLetter : GoodIn wsX2_canStandAt (va_wsS RX2 73 yX2_kindOfLetter wsX2_kindOfLetter) := goodIn_app (goodIn_of _ (by decide +kernel)) ggX2_canStandAt_X2_kindOfLetter
theorem dX2_canStandAt_0 : decode cX2_canStandAt 0 = .ok (.iload_n 0, 1) := by decide +kernel
theorem dX2_canStandAt_1 : decode cX2_canStandAt 1 = .ok (.bipush 17, 2) := by decide +kernel
theorem dX2_canStandAt_3 : decode cX2_canStandAt 3 = .ok (.if_icmp .lt 5, 3) := by decide +kernel
theorem dX2_canStandAt_6 : decode cX2_canStandAt 6 = .ok (.iconst 0, 1) := by decide +kernel
theorem dX2_canStandAt_7 : decode cX2_canStandAt 7 = .ok (.ireturn, 1) := by decide +kernel
theorem dX2_canStandAt_8 : decode cX2_canStandAt 8 = .ok (.iload_n 0, 1) := by decide +kernel
theorem dX2_canStandAt_9 : decode cX2_canStandAt 9 = .ok (.iconst 3, 1) := by decide +kernel
theorem dX2_canStandAt_10 : decode cX2_canStandAt 10 = .ok (.irem, 1) := by decide +kernel
theorem dX2_canStandAt_11 : decode cX2_canStandAt 11 = .ok (.lookupswitch 57 #[(0, 25), (1, 39)], 25) := by decide +kernel
theorem dX2_canStandAt_36 : decode cX2_canStandAt 36 = .ok (.iload_n 1, 1) := by decide +kernel
theorem dX2_canStandAt_37 : decode cX2_canStandAt 37 = .ok (.invokestatic 73, 3) := by decide +kernel
theorem dX2_canStandAt_40 : decode cX2_canStandAt 40 = .ok (.iconst (-1), 1) := by decide +kernel
theorem dX2_canStandAt_41 : decode cX2_canStandAt 41 = .ok (.if_icmp .eq 7, 3) := by decide +kernel
theorem dX2_canStandAt_44 : decode cX2_canStandAt 44 = .ok (.iconst 1, 1) := by decide +kernel
theorem dX2_canStandAt_45 : decode cX2_canStandAt 45 = .ok (.goto 4, 3) := by decide +kernel
theorem dX2_canStandAt_48 : decode cX2_canStandAt 48 = .ok (.iconst 0, 1) := by decide +kernel
theorem dX2_canStandAt_49 : decode cX2_canStandAt 49 = .ok (.ireturn, 1) := by decide +kernel
theorem dX2_canStandAt_50 : decode cX2_canStandAt 50 = .ok (.iload_n 1, 1) := by decide +kernel
theorem dX2_canStandAt_51 : decode cX2_canStandAt 51 = .ok (.bipush 48, 2) := by decide +kernel
theorem dX2_canStandAt_53 : decode cX2_canStandAt 53 = .ok (.if_icmp .lt 13, 3) := by decide +kernel
theorem dX2_canStandAt_56 : decode cX2_canStandAt 56 = .ok (.iload_n 1, 1) := by decide +kernel
theorem dX2_canStandAt_57 : decode cX2_canStandAt 57 = .ok (.bipush 57, 2) := by decide +kernel
theorem dX2_canStandAt_59 : decode cX2_canStandAt 59 = .ok (.if_icmp .gt 7, 3) := by decide +kernel
theorem dX2_canStandAt_62 : decode cX2_canStandAt 62 = .ok (.iconst 1, 1) := by decide +kernel
theorem dX2_canStandAt_63 : decode cX2_canStandAt 63 = .ok (.goto 4, 3) := by decide +kernel
theorem dX2_canStandAt_66 : decode cX2_canStandAt 66 = .ok (.iconst 0, 1) := by decide +kernel
theorem dX2_canStandAt_67 : decode cX2_canStandAt 67 = .ok (.ireturn, 1) := by decide +kernel
theorem dX2_canStandAt_68 : decode cX2_canStandAt 68 = .ok (.iload_n 1, 1) := by decide +kernel
theorem dX2_canStandAt_69 : decode cX2_canStandAt 69 = .ok (.bipush 44, 2) := by decide +kernel
theorem dX2_canStandAt_71 : decode cX2_canStandAt 71 = .ok (.if_icmp .ne 7, 3) := by decide +kernel
theorem dX2_canStandAt_74 : decode cX2_canStandAt 74 = .ok (.iconst 1, 1) := by decide +kernel
theorem dX2_canStandAt_75 : decode cX2_canStandAt 75 = .ok (.goto 4, 3) := by decide +kernel
theorem dX2_canStandAt_78 : decode cX2_canStandAt 78 = .ok (.iconst 0, 1) := by decide +kernel
theorem dX2_canStandAt_79 : decode cX2_canStandAt 79 = .ok (.ireturn, 1) := by decide +kernel
set_option maxRecDepth 20000 in
theorem ggX2_kindOfLetter_J0_length_8abf5 : GoodIn wsX2_kindOfLetter wsJ0_length_8abf5 := goodIn_r _ [5, 6, 7, 8, 9, 4, 10, 11, 12] (by decide +kernel) (by decide +kernel)
set_option maxRecDepth 20000 in
theorem gX2_kindOfLetter_J0_length_8abf5 : GoodIn wsX2_kindOfLetter (wsV RX2 235 RJ0 yJ0_length_8abf5 wsJ0_length_8abf5) := goodIn_app (goodIn_of _ (by decide +kernel)) ggX2_kindOfLetter_J0_length_8abf5
set_option maxRecDepth 20000 in
theorem ggX2_kindOfLetter_J0_charAt_5068e : GoodIn wsX2_kindOfLetter wsJ0_charAt_5068e := goodIn_r _ [16, 6, 17, 18, 19, 4, 20, 11, 12, 21, 22, 23, 24, 25, 26, 27, 28, 29, 30, 31, 32, 33, 34, 35, 36, 37, 38, 39, 40, 41, 42, 43, 44, 45, 46, 47, 48, 49] (by decide +kernel) (by decide +kernel)
set_option maxRecDepth 20000 in
theorem gX2_kindOfLetter_J0_charAt_5068e : GoodIn wsX2_kindOfLetter (wsV RX2 240 RJ0 yJ0_charAt_5068e wsJ0_charAt_5068e) := goodIn_app (goodIn_of _ (by decide +kernel)) ggX2_kindOfLetter_J0_charAt_5068e
theorem dX2_kindOfLetter_0 : decode cX2_kindOfLetter 0 = .ok (.iconst 0, 1) := by decide +kernel
theorem dX2_kindOfLetter_1 : decode cX2_kindOfLetter 1 = .ok (.istore_n 1, 1) := by decide +kernel
theorem dX2_kindOfLetter_2 : decode cX2_kindOfLetter 2 = .ok (.iload_n 1, 1) := by decide +kernel
theorem dX2_kindOfLetter_3 : decode cX2_kindOfLetter 3 = .ok (.ldc 233, 2) := by decide +kernel
theorem dX2_kindOfLetter_5 : decode cX2_kindOfLetter 5 = .ok (.invokevirtual 235, 3) := by decide +kernel
theorem dX2_kindOfLetter_8 : decode cX2_kindOfLetter 8 = .ok (.if_icmp .ge 21, 3) := by decide +kernel
theorem dX2_kindOfLetter_11 : decode cX2_kindOfLetter 11 = .ok (.ldc 233, 2) := by decide +kernel
theorem dX2_kindOfLetter_13 : decode cX2_kindOfLetter 13 = .ok (.iload_n 1, 1) := by decide +kernel
theorem dX2_kindOfLetter_14 : decode cX2_kindOfLetter 14 = .ok (.invokevirtual 240, 3) := by decide +kernel
theorem dX2_kindOfLetter_17 : decode cX2_kindOfLetter 17 = .ok (.iload_n 0, 1) := by decide +kernel
theorem dX2_kindOfLetter_18 : decode cX2_kindOfLetter 18 = .ok (.if_icmp .ne 5, 3) := by decide +kernel
theorem dX2_kindOfLetter_21 : decode cX2_kindOfLetter 21 = .ok (.iload_n 1, 1) := by decide +kernel
theorem dX2_kindOfLetter_22 : decode cX2_kindOfLetter 22 = .ok (.ireturn, 1) := by decide +kernel
theorem dX2_kindOfLetter_23 : decode cX2_kindOfLetter 23 = .ok (.iinc 1 1, 3) := by decide +kernel
theorem dX2_kindOfLetter_26 : decode cX2_kindOfLetter 26 = .ok (.goto (-24), 3) := by decide +kernel
theorem dX2_kindOfLetter_29 : decode cX2_kindOfLetter 29 = .ok (.iconst (-1), 1) := by decide +kernel
theorem dX2_kindOfLetter_30 : decode cX2_kindOfLetter 30 = .ok (.ireturn, 1) := by decide +kernel
set_option maxRecDepth 20000 in
theorem ggX2_housesOnPage_X2_fault : GoodIn wsX2_housesOnPage wsX2_fault := goodIn_r _ [6, 1, 7, 8, 9, 10, 11, 12, 13, 14, 15, 5, 16, 17, 18, 19, 20, 21, 22, 23, 24, 25, 26, 27, 28, 29, 30, 31, 32, 33, 34, 35, 36, 37, 38, 39, 40, 41, 42, 43, 44, 45, 46, 47, 48, 49, 50, 51, 52, 53, 54, 55, 56, 57, 58, 59, 60, 61, 62, 63, 64, 65, 66, 67, 68, 69, 70, 71, 72, 73, 74, 75, 76, 77, 78, 79, 80] (by decide +kernel) (by decide +kernel)
set_option maxRecDepth 20000 in
theorem gX2_housesOnPage_X2_fault : GoodIn wsX2_housesOnPage (wsV RX2 244 RX2 yX2_fault wsX2_fault) := goodIn_app (goodIn_of _ (by decide +kernel)) ggX2_housesOnPage_X2_fault
theorem dX2_housesOnPage_0 : decode cX2_housesOnPage 0 = .ok (.aload_n 0, 1) := by decide +kernel
theorem dX2_housesOnPage_1 : decode cX2_housesOnPage 1 = .ok (.getfield 18, 3) := by decide +kernel
theorem dX2_housesOnPage_4 : decode cX2_housesOnPage 4 = .ok (.iconst 3, 1) := by decide +kernel
theorem dX2_housesOnPage_5 : decode cX2_housesOnPage 5 = .ok (.irem, 1) := by decide +kernel
theorem dX2_housesOnPage_6 : decode cX2_housesOnPage 6 = .ok (.iconst 2, 1) := by decide +kernel
theorem dX2_housesOnPage_7 : decode cX2_housesOnPage 7 = .ok (.if_icmp .ne 7, 3) := by decide +kernel
theorem dX2_housesOnPage_10 : decode cX2_housesOnPage 10 = .ok (.iconst 1, 1) := by decide +kernel
theorem dX2_housesOnPage_11 : decode cX2_housesOnPage 11 = .ok (.goto 4, 3) := by decide +kernel
theorem dX2_housesOnPage_14 : decode cX2_housesOnPage 14 = .ok (.iconst 0, 1) := by decide +kernel
theorem dX2_housesOnPage_15 : decode cX2_housesOnPage 15 = .ok (.istore_n 1, 1) := by decide +kernel
theorem dX2_housesOnPage_16 : decode cX2_housesOnPage 16 = .ok (.iload_n 1, 1) := by decide +kernel
theorem dX2_housesOnPage_17 : decode cX2_housesOnPage 17 = .ok (.ifCond .eq 14, 3) := by decide +kernel
theorem dX2_housesOnPage_20 : decode cX2_housesOnPage 20 = .ok (.aload_n 0, 1) := by decide +kernel
theorem dX2_housesOnPage_21 : decode cX2_housesOnPage 21 = .ok (.invokevirtual 244, 3) := by decide +kernel
theorem dX2_housesOnPage_24 : decode cX2_housesOnPage 24 = .ok (.aload_n 0, 1) := by decide +kernel
theorem dX2_housesOnPage_25 : decode cX2_housesOnPage 25 = .ok (.getfield 18, 3) := by decide +kernel
theorem dX2_housesOnPage_28 : decode cX2_housesOnPage 28 = .ok (.if_icmp .eq 5, 3) := by decide +kernel
theorem dX2_housesOnPage_31 : decode cX2_housesOnPage 31 = .ok (.iconst 0, 1) := by decide +kernel
theorem dX2_housesOnPage_32 : decode cX2_housesOnPage 32 = .ok (.ireturn, 1) := by decide +kernel
theorem dX2_housesOnPage_33 : decode cX2_housesOnPage 33 = .ok (.aload_n 0, 1) := by decide +kernel
theorem dX2_housesOnPage_34 : decode cX2_housesOnPage 34 = .ok (.getfield 18, 3) := by decide +kernel
theorem dX2_housesOnPage_37 : decode cX2_housesOnPage 37 = .ok (.iconst 1, 1) := by decide +kernel
theorem dX2_housesOnPage_38 : decode cX2_housesOnPage 38 = .ok (.iadd, 1) := by decide +kernel
theorem dX2_housesOnPage_39 : decode cX2_housesOnPage 39 = .ok (.iconst 3, 1) := by decide +kernel
theorem dX2_housesOnPage_40 : decode cX2_housesOnPage 40 = .ok (.idiv, 1) := by decide +kernel
theorem dX2_housesOnPage_41 : decode cX2_housesOnPage 41 = .ok (.ireturn, 1) := by decide +kernel
theorem dX2_isA_0 : decode cX2_isA 0 = .ok (.iload_n 1, 1) := by decide +kernel
theorem dX2_isA_1 : decode cX2_isA 1 = .ok (.ifCond .eq 18, 3) := by decide +kernel
theorem dX2_isA_4 : decode cX2_isA 4 = .ok (.iload_n 1, 1) := by decide +kernel
theorem dX2_isA_5 : decode cX2_isA 5 = .ok (.iload_n 0, 1) := by decide +kernel
theorem dX2_isA_6 : decode cX2_isA 6 = .ok (.if_icmp .eq 13, 3) := by decide +kernel
theorem dX2_isA_9 : decode cX2_isA 9 = .ok (.iload_n 1, 1) := by decide +kernel
theorem dX2_isA_10 : decode cX2_isA 10 = .ok (.iconst 2, 1) := by decide +kernel
theorem dX2_isA_11 : decode cX2_isA 11 = .ok (.if_icmp .ne 12, 3) := by decide +kernel
theorem dX2_isA_14 : decode cX2_isA 14 = .ok (.iload_n 0, 1) := by decide +kernel
theorem dX2_isA_15 : decode cX2_isA 15 = .ok (.iconst 4, 1) := by decide +kernel
theorem dX2_isA_16 : decode cX2_isA 16 = .ok (.if_icmp .ne 7, 3) := by decide +kernel
theorem dX2_isA_19 : decode cX2_isA 19 = .ok (.iconst 1, 1) := by decide +kernel
theorem dX2_isA_20 : decode cX2_isA 20 = .ok (.goto 4, 3) := by decide +kernel
theorem dX2_isA_23 : decode cX2_isA 23 = .ok (.iconst 0, 1) := by decide +kernel
theorem dX2_isA_24 : decode cX2_isA 24 = .ok (.ireturn, 1) := by decide +kernel
theorem dX2_numberOf_0 : decode cX2_numberOf 0 = .ok (.iload_n 0, 1) := by decide +kernel
theorem dX2_numberOf_1 : decode cX2_numberOf 1 = .ok (.iconst 1, 1) := by decide +kernel
theorem dX2_numberOf_2 : decode cX2_numberOf 2 = .ok (.if_icmp .ne 9, 3) := by decide +kernel
theorem dX2_numberOf_5 : decode cX2_numberOf 5 = .ok (.iload_n 1, 1) := by decide +kernel
theorem dX2_numberOf_6 : decode cX2_numberOf 6 = .ok (.iconst 2, 1) := by decide +kernel
theorem dX2_numberOf_7 : decode cX2_numberOf 7 = .ok (.idiv, 1) := by decide +kernel
theorem dX2_numberOf_8 : decode cX2_numberOf 8 = .ok (.goto 4, 3) := by decide +kernel
theorem dX2_numberOf_11 : decode cX2_numberOf 11 = .ok (.iload_n 1, 1) := by decide +kernel
theorem dX2_numberOf_12 : decode cX2_numberOf 12 = .ok (.ireturn, 1) := by decide +kernel
theorem dX2_ageNextDay_0 : decode cX2_ageNextDay 0 = .ok (.iload_n 0, 1) := by decide +kernel
theorem dX2_ageNextDay_1 : decode cX2_ageNextDay 1 = .ok (.iconst 4, 1) := by decide +kernel
theorem dX2_ageNextDay_2 : decode cX2_ageNextDay 2 = .ok (.if_icmp .ne 7, 3) := by decide +kernel
theorem dX2_ageNextDay_5 : decode cX2_ageNextDay 5 = .ok (.iload_n 1, 1) := by decide +kernel
theorem dX2_ageNextDay_6 : decode cX2_ageNextDay 6 = .ok (.goto 6, 3) := by decide +kernel
theorem dX2_ageNextDay_9 : decode cX2_ageNextDay 9 = .ok (.iload_n 1, 1) := by decide +kernel
theorem dX2_ageNextDay_10 : decode cX2_ageNextDay 10 = .ok (.iconst 1, 1) := by decide +kernel
theorem dX2_ageNextDay_11 : decode cX2_ageNextDay 11 = .ok (.iadd, 1) := by decide +kernel
theorem dX2_ageNextDay_12 : decode cX2_ageNextDay 12 = .ok (.ireturn, 1) := by decide +kernel
theorem dX2_isHouse_0 : decode cX2_isHouse 0 = .ok (.iload_n 1, 1) := by decide +kernel
theorem dX2_isHouse_1 : decode cX2_isHouse 1 = .ok (.ifCond .lt 15, 3) := by decide +kernel
theorem dX2_isHouse_4 : decode cX2_isHouse 4 = .ok (.iload_n 1, 1) := by decide +kernel
theorem dX2_isHouse_5 : decode cX2_isHouse 5 = .ok (.aload_n 0, 1) := by decide +kernel
theorem dX2_isHouse_6 : decode cX2_isHouse 6 = .ok (.getfield 22, 3) := by decide +kernel
theorem dX2_isHouse_9 : decode cX2_isHouse 9 = .ok (.if_icmp .ge 7, 3) := by decide +kernel
theorem dX2_isHouse_12 : decode cX2_isHouse 12 = .ok (.iconst 1, 1) := by decide +kernel
theorem dX2_isHouse_13 : decode cX2_isHouse 13 = .ok (.goto 4, 3) := by decide +kernel
theorem dX2_isHouse_16 : decode cX2_isHouse 16 = .ok (.iconst 0, 1) := by decide +kernel
theorem dX2_isHouse_17 : decode cX2_isHouse 17 = .ok (.ireturn, 1) := by decide +kernel
set_option maxRecDepth 20000 in
theorem ggX2_lendsACradle_X2_isHouse : GoodIn wsX2_lendsACradle wsX2_isHouse := goodIn_r _ [6, 7, 17, 18, 19, 20, 21, 22, 23, 24, 25, 26, 27] (by decide +kernel) (by decide +kernel)
set_option maxRecDepth 20000 in
theorem gX2_lendsACradle_X2_isHouse : GoodIn wsX2_lendsACradle (wsV RX2 79 RX2 yX2_isHouse wsX2_isHouse) := goodIn_app (goodIn_of _ (by decide +kernel)) ggX2_lendsACradle_X2_isHouse
set_option maxRecDepth 20000 in
theorem ggX2_lendsACradle_X1_at : GoodIn wsX2_lendsACradle wsX1_at := goodIn_r _ [12, 13, 28] (by decide +kernel) (by decide +kernel)
set_option maxRecDepth 20000 in
theorem gX2_lendsACradle_X1_at : GoodIn wsX2_lendsACradle (wsV RX2 58 RX1 yX1_at wsX1_at) := goodIn_app (goodIn_of _ (by decide +kernel)) ggX2_lendsACradle_X1_at
set_option maxRecDepth 20000 in
theorem ggX2_lendsACradle_X2_isA : GoodIn wsX2_lendsACradle wsX2_isA := goodIn_r _ [16] (by decide +kernel) (by decide +kernel)
set_option maxRecDepth 20000 in
theorem gX2_lendsACradle_X2_isA : GoodIn wsX2_lendsACradle (va_wsS RX2 96 yX2_isA wsX2_isA) := goodIn_app (goodIn_of _ (by decide +kernel)) ggX2_lendsACradle_X2_isA
theorem dX2_lendsACradle_0 : decode cX2_lendsACradle 0 = .ok (.aload_n 0, 1) := by decide +kernel
theorem dX2_lendsACradle_1 : decode cX2_lendsACradle 1 = .ok (.iload_n 1, 1) := by decide +kernel
theorem dX2_lendsACradle_2 : decode cX2_lendsACradle 2 = .ok (.iconst 1, 1) := by decide +kernel
theorem dX2_lendsACradle_3 : decode cX2_lendsACradle 3 = .ok (.iadd, 1) := by decide +kernel
theorem dX2_lendsACradle_4 : decode cX2_lendsACradle 4 = .ok (.invokevirtual 79, 3) := by decide +kernel
theorem dX2_lendsACradle_7 : decode cX2_lendsACradle 7 = .ok (.ifCond .eq 24, 3) := by decide +kernel
theorem dX2_lendsACradle_10 : decode cX2_lendsACradle 10 = .ok (.aload_n 0, 1) := by decide +kernel
theorem dX2_lendsACradle_11 : decode cX2_lendsACradle 11 = .ok (.getfield 28, 3) := by decide +kernel
theorem dX2_lendsACradle_14 : decode cX2_lendsACradle 14 = .ok (.iload_n 1, 1) := by decide +kernel
theorem dX2_lendsACradle_15 : decode cX2_lendsACradle 15 = .ok (.iconst 1, 1) := by decide +kernel
theorem dX2_lendsACradle_16 : decode cX2_lendsACradle 16 = .ok (.iadd, 1) := by decide +kernel
theorem dX2_lendsACradle_17 : decode cX2_lendsACradle 17 = .ok (.invokevirtual 58, 3) := by decide +kernel
theorem dX2_lendsACradle_20 : decode cX2_lendsACradle 20 = .ok (.iconst 3, 1) := by decide +kernel
theorem dX2_lendsACradle_21 : decode cX2_lendsACradle 21 = .ok (.invokestatic 96, 3) := by decide +kernel
theorem dX2_lendsACradle_24 : decode cX2_lendsACradle 24 = .ok (.ifCond .eq 7, 3) := by decide +kernel
theorem dX2_lendsACradle_27 : decode cX2_lendsACradle 27 = .ok (.iconst 1, 1) := by decide +kernel
theorem dX2_lendsACradle_28 : decode cX2_lendsACradle 28 = .ok (.goto 4, 3) := by decide +kernel
theorem dX2_lendsACradle_31 : decode cX2_lendsACradle 31 = .ok (.iconst 0, 1) := by decide +kernel
theorem dX2_lendsACradle_32 : decode cX2_lendsACradle 32 = .ok (.ireturn, 1) := by decide +kernel
set_option maxRecDepth 20000 in
theorem ggX2_bear_X1_put : GoodIn wsX2_bear wsX1_put := goodIn_r _ [5, 6, 25] (by decide +kernel) (by decide +kernel)
set_option maxRecDepth 20000 in
theorem gX2_bear_X1_put : GoodIn wsX2_bear (wsV RX2 54 RX1 yX1_put wsX1_put) := goodIn_app (goodIn_of _ (by decide +kernel)) ggX2_bear_X1_put
set_option maxRecDepth 20000 in
theorem ggX2_bear_X2_lendsACradle : GoodIn wsX2_bear wsX2_lendsACradle := goodIn_r _ [11, 12, 13, 14, 15, 10, 16, 17, 18, 19, 20, 4, 21, 6, 22, 23, 24, 26, 27, 28, 29, 30, 31, 32, 33, 34, 35, 36, 25] (by decide +kernel) (by decide +kernel)
set_option maxRecDepth 20000 in
theorem gX2_bear_X2_lendsACradle : GoodIn wsX2_bear (wsV RX2 109 RX2 yX2_lendsACradle wsX2_lendsACradle) := goodIn_app (goodIn_of _ (by decide +kernel)) ggX2_bear_X2_lendsACradle
theorem dX2_bear_0 : decode cX2_bear 0 = .ok (.aload_n 1, 1) := by decide +kernel
theorem dX2_bear_1 : decode cX2_bear 1 = .ok (.iload_n 2, 1) := by decide +kernel
theorem dX2_bear_2 : decode cX2_bear 2 = .ok (.iconst 0, 1) := by decide +kernel
theorem dX2_bear_3 : decode cX2_bear 3 = .ok (.invokevirtual 54, 3) := by decide +kernel
theorem dX2_bear_6 : decode cX2_bear 6 = .ok (.aload_n 0, 1) := by decide +kernel
theorem dX2_bear_7 : decode cX2_bear 7 = .ok (.iload_n 2, 1) := by decide +kernel
theorem dX2_bear_8 : decode cX2_bear 8 = .ok (.invokevirtual 109, 3) := by decide +kernel
theorem dX2_bear_11 : decode cX2_bear 11 = .ok (.ifCond .eq 11, 3) := by decide +kernel
theorem dX2_bear_14 : decode cX2_bear 14 = .ok (.aload_n 1, 1) := by decide +kernel
theorem dX2_bear_15 : decode cX2_bear 15 = .ok (.iload_n 2, 1) := by decide +kernel
theorem dX2_bear_16 : decode cX2_bear 16 = .ok (.iconst 1, 1) := by decide +kernel
theorem dX2_bear_17 : decode cX2_bear 17 = .ok (.iadd, 1) := by decide +kernel
theorem dX2_bear_18 : decode cX2_bear 18 = .ok (.iconst 0, 1) := by decide +kernel
theorem dX2_bear_19 : decode cX2_bear 19 = .ok (.invokevirtual 54, 3) := by decide +kernel
theorem dX2_bear_22 : decode cX2_bear 22 = .ok (.return_, 1) := by decide +kernel
set_option maxRecDepth 20000 in
theorem ggX2_bearIfMayBe_X1_at : GoodIn wsX2_bearIfMayBe wsX1_at := goodIn_r _ [6, 7, 40] (by decide +kernel) (by decide +kernel)
set_option maxRecDepth 20000 in
theorem gX2_bearIfMayBe_X1_at : GoodIn wsX2_bearIfMayBe (wsV RX2 58 RX1 yX1_at wsX1_at) := goodIn_app (goodIn_of _ (by decide +kernel)) ggX2_bearIfMayBe_X1_at
set_option maxRecDepth 20000 in
theorem ggX2_bearIfMayBe_X2_isA : GoodIn wsX2_bearIfMayBe wsX2_isA := goodIn_r _ [11] (by decide +kernel) (by decide +kernel)
set_option maxRecDepth 20000 in
theorem gX2_bearIfMayBe_X2_isA : GoodIn wsX2_bearIfMayBe (va_wsS RX2 96 yX2_isA wsX2_isA) := goodIn_app (goodIn_of _ (by decide +kernel)) ggX2_bearIfMayBe_X2_isA
set_option maxRecDepth 20000 in
theorem ggX2_bearIfMayBe_X2_bear : GoodIn wsX2_bearIfMayBe wsX2_bear := goodIn_r _ [15, 16, 17, 18, 5, 19, 7, 20, 21, 22, 10, 23, 1, 24, 25, 26, 27, 28, 2, 3, 4, 6, 8, 9, 11, 40, 29, 30, 31, 32, 33, 34, 35, 36, 37, 38, 39] (by decide +kernel) (by decide +kernel)
set_option maxRecDepth 20000 in
theorem gX2_bearIfMayBe_X2_bear : GoodIn wsX2_bearIfMayBe (wsV RX2 99 RX2 yX2_bear wsX2_bear) := goodIn_app (goodIn_of _ (by decide +kernel)) ggX2_bearIfMayBe_X2_bear
theorem dX2_bearIfMayBe_0 : decode cX2_bearIfMayBe 0 = .ok (.aload_n 0, 1) := by decide +kernel
theorem dX2_bearIfMayBe_1 : decode cX2_bearIfMayBe 1 = .ok (.getfield 28, 3) := by decide +kernel
theorem dX2_bearIfMayBe_4 : decode cX2_bearIfMayBe 4 = .ok (.iload_n 2, 1) := by decide +kernel
theorem dX2_bearIfMayBe_5 : decode cX2_bearIfMayBe 5 = .ok (.invokevirtual 58, 3) := by decide +kernel
theorem dX2_bearIfMayBe_8 : decode cX2_bearIfMayBe 8 = .ok (.iconst 2, 1) := by decide +kernel
theorem dX2_bearIfMayBe_9 : decode cX2_bearIfMayBe 9 = .ok (.invokestatic 96, 3) := by decide +kernel
theorem dX2_bearIfMayBe_12 : decode cX2_bearIfMayBe 12 = .ok (.ifCond .ne 9, 3) := by decide +kernel
theorem dX2_bearIfMayBe_15 : decode cX2_bearIfMayBe 15 = .ok (.aload_n 0, 1) := by decide +kernel
theorem dX2_bearIfMayBe_16 : decode cX2_bearIfMayBe 16 = .ok (.aload_n 1, 1) := by decide +kernel
theorem dX2_bearIfMayBe_17 : decode cX2_bearIfMayBe 17 = .ok (.iload_n 2, 1) := by decide +kernel
theorem dX2_bearIfMayBe_18 : decode cX2_bearIfMayBe 18 = .ok (.invokevirtual 99, 3) := by decide +kernel
theorem dX2_bearIfMayBe_21 : decode cX2_bearIfMayBe 21 = .ok (.return_, 1) := by decide +kernel
set_option maxRecDepth 20000 in
theorem ggX2_growOlder_X1_at : GoodIn wsX2_growOlder wsX1_at := goodIn_r _ [7, 8, 28] (by decide +kernel) (by decide +kernel)
set_option maxRecDepth 20000 in
theorem gX2_growOlder_X1_at : GoodIn wsX2_growOlder (wsV RX2 58 RX1 yX1_at wsX1_at) := goodIn_app (goodIn_of _ (by decide +kernel)) ggX2_growOlder_X1_at
set_option maxRecDepth 20000 in
theorem ggX2_growOlder_X2_ageNextDay : GoodIn wsX2_growOlder wsX2_ageNextDay := goodIn_r _ [12] (by decide +kernel) (by decide +kernel)
set_option maxRecDepth 20000 in
theorem gX2_growOlder_X2_ageNextDay : GoodIn wsX2_growOlder (va_wsS RX2 159 yX2_ageNextDay wsX2_ageNextDay) := goodIn_app (goodIn_of _ (by decide +kernel)) ggX2_growOlder_X2_ageNextDay
set_option maxRecDepth 20000 in
theorem ggX2_growOlder_X1_put : GoodIn wsX2_growOlder wsX1_put := goodIn_r _ [16, 8, 28] (by decide +kernel) (by decide +kernel)
set_option maxRecDepth 20000 in
theorem gX2_growOlder_X1_put : GoodIn wsX2_growOlder (wsV RX2 54 RX1 yX1_put wsX1_put) := goodIn_app (goodIn_of _ (by decide +kernel)) ggX2_growOlder_X1_put
theorem dX2_growOlder_0 : decode cX2_growOlder 0 = .ok (.iconst 0, 1) := by decide +kernel
theorem dX2_growOlder_1 : decode cX2_growOlder 1 = .ok (.istore_n 2, 1) := by decide +kernel
theorem dX2_growOlder_2 : decode cX2_growOlder 2 = .ok (.iload_n 2, 1) := by decide +kernel
theorem dX2_growOlder_3 : decode cX2_growOlder 3 = .ok (.aload_n 0, 1) := by decide +kernel
theorem dX2_growOlder_4 : decode cX2_growOlder 4 = .ok (.getfield 22, 3) := by decide +kernel
theorem dX2_growOlder_7 : decode cX2_growOlder 7 = .ok (.if_icmp .ge 30, 3) := by decide +kernel
theorem dX2_growOlder_10 : decode cX2_growOlder 10 = .ok (.aload_n 1, 1) := by decide +kernel
theorem dX2_growOlder_11 : decode cX2_growOlder 11 = .ok (.iload_n 2, 1) := by decide +kernel
theorem dX2_growOlder_12 : decode cX2_growOlder 12 = .ok (.aload_n 0, 1) := by decide +kernel
theorem dX2_growOlder_13 : decode cX2_growOlder 13 = .ok (.getfield 28, 3) := by decide +kernel
theorem dX2_growOlder_16 : decode cX2_growOlder 16 = .ok (.iload_n 2, 1) := by decide +kernel
theorem dX2_growOlder_17 : decode cX2_growOlder 17 = .ok (.invokevirtual 58, 3) := by decide +kernel
theorem dX2_growOlder_20 : decode cX2_growOlder 20 = .ok (.aload_n 1, 1) := by decide +kernel
theorem dX2_growOlder_21 : decode cX2_growOlder 21 = .ok (.iload_n 2, 1) := by decide +kernel
theorem dX2_growOlder_22 : decode cX2_growOlder 22 = .ok (.invokevirtual 58, 3) := by decide +kernel
theorem dX2_growOlder_25 : decode cX2_growOlder 25 = .ok (.invokestatic 159, 3) := by decide +kernel
theorem dX2_growOlder_28 : decode cX2_growOlder 28 = .ok (.invokevirtual 54, 3) := by decide +kernel
theorem dX2_growOlder_31 : decode cX2_growOlder 31 = .ok (.iinc 2 1, 3) := by decide +kernel
theorem dX2_growOlder_34 : decode cX2_growOlder 34 = .ok (.goto (-32), 3) := by decide +kernel
theorem dX2_growOlder_37 : decode cX2_growOlder 37 = .ok (.return_, 1) := by decide +kernel
set_option maxRecDepth 20000 in
theorem ggX2_numberAt_X1_at : GoodIn wsX2_numberAt wsX1_at := goodIn_r _ [6, 7, 23] (by decide +kernel) (by decide +kernel)
set_option maxRecDepth 20000 in
theorem gX2_numberAt_X1_at : GoodIn wsX2_numberAt (wsV RX2 58 RX1 yX1_at wsX1_at) := goodIn_app (goodIn_of _ (by decide +kernel)) ggX2_numberAt_X1_at
set_option maxRecDepth 20000 in
theorem ggX2_numberAt_X2_numberOf : GoodIn wsX2_numberAt wsX2_numberOf := goodIn_r _ [11] (by decide +kernel) (by decide +kernel)
set_option maxRecDepth 20000 in
theorem gX2_numberAt_X2_numberOf : GoodIn wsX2_numberAt (va_wsS RX2 156 yX2_numberOf wsX2_numberOf) := goodIn_app (goodIn_of _ (by decide +kernel)) ggX2_numberAt_X2_numberOf
theorem dX2_numberAt_0 : decode cX2_numberAt 0 = .ok (.aload_n 0, 1) := by decide +kernel
theorem dX2_numberAt_1 : decode cX2_numberAt 1 = .ok (.getfield 28, 3) := by decide +kernel
theorem dX2_numberAt_4 : decode cX2_numberAt 4 = .ok (.iload_n 2, 1) := by decide +kernel
theorem dX2_numberAt_5 : decode cX2_numberAt 5 = .ok (.invokevirtual 58, 3) := by decide +kernel
theorem dX2_numberAt_8 : decode cX2_numberAt 8 = .ok (.aload_n 1, 1) := by decide +kernel
theorem dX2_numberAt_9 : decode cX2_numberAt 9 = .ok (.iload_n 2, 1) := by decide +kernel
theorem dX2_numberAt_10 : decode cX2_numberAt 10 = .ok (.invokevirtual 58, 3) := by decide +kernel
theorem dX2_numberAt_13 : decode cX2_numberAt 13 = .ok (.invokestatic 156, 3) := by decide +kernel
theorem dX2_numberAt_16 : decode cX2_numberAt 16 = .ok (.ireturn, 1) := by decide +kernel
set_option maxRecDepth 20000 in
theorem ggX2_allNumbers_X2_numberAt : GoodIn wsX2_allNumbers wsX2_numberAt := goodIn_r _ [6, 7, 8, 9, 10, 11, 12, 13, 14, 15, 5, 16, 17, 18, 19, 20, 21, 22, 23, 24, 25, 26, 27, 28] (by decide +kernel) (by decide +kernel)
set_option maxRecDepth 20000 in
theorem gX2_allNumbers_X2_numberAt : GoodIn wsX2_allNumbers (wsV RX2 247 RX2 yX2_numberAt wsX2_numberAt) := goodIn_app (goodIn_of _ (by decide +kernel)) ggX2_allNumbers_X2_numberAt
theorem dX2_allNumbers_0 : decode cX2_allNumbers 0 = .ok (.iconst 0, 1) := by decide +kernel
theorem dX2_allNumbers_1 : decode cX2_allNumbers 1 = .ok (.istore_n 2, 1) := by decide +kernel
theorem dX2_allNumbers_2 : decode cX2_allNumbers 2 = .ok (.iconst 0, 1) := by decide +kernel
theorem dX2_allNumbers_3 : decode cX2_allNumbers 3 = .ok (.istore_n 3, 1) := by decide +kernel
theorem dX2_allNumbers_4 : decode cX2_allNumbers 4 = .ok (.iload_n 3, 1) := by decide +kernel
theorem dX2_allNumbers_5 : decode cX2_allNumbers 5 = .ok (.aload_n 0, 1) := by decide +kernel
theorem dX2_allNumbers_6 : decode cX2_allNumbers 6 = .ok (.getfield 22, 3) := by decide +kernel
theorem dX2_allNumbers_9 : decode cX2_allNumbers 9 = .ok (.if_icmp .ge 18, 3) := by decide +kernel
theorem dX2_allNumbers_12 : decode cX2_allNumbers 12 = .ok (.iload_n 2, 1) := by decide +kernel
theorem dX2_allNumbers_13 : decode cX2_allNumbers 13 = .ok (.aload_n 0, 1) := by decide +kernel
theorem dX2_allNumbers_14 : decode cX2_allNumbers 14 = .ok (.aload_n 1, 1) := by decide +kernel
theorem dX2_allNumbers_15 : decode cX2_allNumbers 15 = .ok (.iload_n 3, 1) := by decide +kernel
theorem dX2_allNumbers_16 : decode cX2_allNumbers 16 = .ok (.invokevirtual 247, 3) := by decide +kernel
theorem dX2_allNumbers_19 : decode cX2_allNumbers 19 = .ok (.iadd, 1) := by decide +kernel
theorem dX2_allNumbers_20 : decode cX2_allNumbers 20 = .ok (.istore_n 2, 1) := by decide +kernel
theorem dX2_allNumbers_21 : decode cX2_allNumbers 21 = .ok (.iinc 3 1, 3) := by decide +kernel
theorem dX2_allNumbers_24 : decode cX2_allNumbers 24 = .ok (.goto (-20), 3) := by decide +kernel
theorem dX2_allNumbers_27 : decode cX2_allNumbers 27 = .ok (.iload_n 2, 1) := by decide +kernel
theorem dX2_allNumbers_28 : decode cX2_allNumbers 28 = .ok (.ireturn, 1) := by decide +kernel
set_option maxRecDepth 20000 in
theorem ggX2_turnInWalk_X2_numberAt : GoodIn wsX2_turnInWalk wsX2_numberAt := goodIn_r _ [6, 7, 8, 9, 10, 11, 12, 13, 14, 15, 5, 16, 17, 18, 19, 20, 21, 22, 23, 24, 25, 26, 27, 28] (by decide +kernel) (by decide +kernel)
set_option maxRecDepth 20000 in
theorem gX2_turnInWalk_X2_numberAt : GoodIn wsX2_turnInWalk (wsV RX2 247 RX2 yX2_numberAt wsX2_numberAt) := goodIn_app (goodIn_of _ (by decide +kernel)) ggX2_turnInWalk_X2_numberAt
theorem dX2_turnInWalk_0 : decode cX2_turnInWalk 0 = .ok (.aload_n 0, 1) := by decide +kernel
theorem dX2_turnInWalk_1 : decode cX2_turnInWalk 1 = .ok (.aload_n 1, 1) := by decide +kernel
theorem dX2_turnInWalk_2 : decode cX2_turnInWalk 2 = .ok (.iload_n 2, 1) := by decide +kernel
theorem dX2_turnInWalk_3 : decode cX2_turnInWalk 3 = .ok (.invokevirtual 247, 3) := by decide +kernel
theorem dX2_turnInWalk_6 : decode cX2_turnInWalk 6 = .ok (.istore_n 3, 1) := by decide +kernel
theorem dX2_turnInWalk_7 : decode cX2_turnInWalk 7 = .ok (.iconst 0, 1) := by decide +kernel
theorem dX2_turnInWalk_8 : decode cX2_turnInWalk 8 = .ok (.istore 4, 2) := by decide +kernel
theorem dX2_turnInWalk_10 : decode cX2_turnInWalk 10 = .ok (.iconst 0, 1) := by decide +kernel
theorem dX2_turnInWalk_11 : decode cX2_turnInWalk 11 = .ok (.istore 5, 2) := by decide +kernel
theorem dX2_turnInWalk_13 : decode cX2_turnInWalk 13 = .ok (.iload 5, 2) := by decide +kernel
theorem dX2_turnInWalk_15 : decode cX2_turnInWalk 15 = .ok (.aload_n 0, 1) := by decide +kernel
theorem dX2_turnInWalk_16 : decode cX2_turnInWalk 16 = .ok (.getfield 22, 3) := by decide +kernel
theorem dX2_turnInWalk_19 : decode cX2_turnInWalk 19 = .ok (.if_icmp .ge 39, 3) := by decide +kernel
theorem dX2_turnInWalk_22 : decode cX2_turnInWalk 22 = .ok (.aload_n 0, 1) := by decide +kernel
theorem dX2_turnInWalk_23 : decode cX2_turnInWalk 23 = .ok (.aload_n 1, 1) := by decide +kernel
theorem dX2_turnInWalk_24 : decode cX2_turnInWalk 24 = .ok (.iload 5, 2) := by decide +kernel
theorem dX2_turnInWalk_26 : decode cX2_turnInWalk 26 = .ok (.invokevirtual 247, 3) := by decide +kernel
theorem dX2_turnInWalk_29 : decode cX2_turnInWalk 29 = .ok (.istore 6, 2) := by decide +kernel
theorem dX2_turnInWalk_31 : decode cX2_turnInWalk 31 = .ok (.iload 6, 2) := by decide +kernel
theorem dX2_turnInWalk_33 : decode cX2_turnInWalk 33 = .ok (.iload_n 3, 1) := by decide +kernel
theorem dX2_turnInWalk_34 : decode cX2_turnInWalk 34 = .ok (.if_icmp .lt 15, 3) := by decide +kernel
theorem dX2_turnInWalk_37 : decode cX2_turnInWalk 37 = .ok (.iload 6, 2) := by decide +kernel
theorem dX2_turnInWalk_39 : decode cX2_turnInWalk 39 = .ok (.iload_n 3, 1) := by decide +kernel
theorem dX2_turnInWalk_40 : decode cX2_turnInWalk 40 = .ok (.if_icmp .ne 12, 3) := by decide +kernel
theorem dX2_turnInWalk_43 : decode cX2_turnInWalk 43 = .ok (.iload 5, 2) := by decide +kernel
theorem dX2_turnInWalk_45 : decode cX2_turnInWalk 45 = .ok (.iload_n 2, 1) := by decide +kernel
theorem dX2_turnInWalk_46 : decode cX2_turnInWalk 46 = .ok (.if_icmp .ge 6, 3) := by decide +kernel
theorem dX2_turnInWalk_49 : decode cX2_turnInWalk 49 = .ok (.iinc 4 1, 3) := by decide +kernel
theorem dX2_turnInWalk_52 : decode cX2_turnInWalk 52 = .ok (.iinc 5 1, 3) := by decide +kernel
theorem dX2_turnInWalk_55 : decode cX2_turnInWalk 55 = .ok (.goto (-42), 3) := by decide +kernel
theorem dX2_turnInWalk_58 : decode cX2_turnInWalk 58 = .ok (.iload 4, 2) := by decide +kernel
theorem dX2_turnInWalk_60 : decode cX2_turnInWalk 60 = .ok (.ireturn, 1) := by decide +kernel
set_option maxRecDepth 20000 in
theorem ggX2_houseOfTurn_X2_turnInWalk : GoodIn wsX2_houseOfTurn wsX2_turnInWalk := goodIn_r _ [6, 1, 7, 8, 9, 5, 10, 11, 12, 13, 14, 15, 16, 17, 18, 19, 20, 21, 22, 23, 24, 25, 26, 27, 28, 29, 30, 31, 32] (by decide +kernel) (by decide +kernel)
set_option maxRecDepth 20000 in
theorem gX2_houseOfTurn_X2_turnInWalk : GoodIn wsX2_houseOfTurn (wsV RX2 92 RX2 yX2_turnInWalk wsX2_turnInWalk) := goodIn_app (goodIn_of _ (by decide +kernel)) ggX2_houseOfTurn_X2_turnInWalk
theorem dX2_houseOfTurn_0 : decode cX2_houseOfTurn 0 = .ok (.iconst 0, 1) := by decide +kernel
theorem dX2_houseOfTurn_1 : decode cX2_houseOfTurn 1 = .ok (.istore_n 3, 1) := by decide +kernel
theorem dX2_houseOfTurn_2 : decode cX2_houseOfTurn 2 = .ok (.iload_n 3, 1) := by decide +kernel
theorem dX2_houseOfTurn_3 : decode cX2_houseOfTurn 3 = .ok (.aload_n 0, 1) := by decide +kernel
theorem dX2_houseOfTurn_4 : decode cX2_houseOfTurn 4 = .ok (.getfield 22, 3) := by decide +kernel
theorem dX2_houseOfTurn_7 : decode cX2_houseOfTurn 7 = .ok (.if_icmp .ge 21, 3) := by decide +kernel
theorem dX2_houseOfTurn_10 : decode cX2_houseOfTurn 10 = .ok (.aload_n 0, 1) := by decide +kernel
theorem dX2_houseOfTurn_11 : decode cX2_houseOfTurn 11 = .ok (.aload_n 1, 1) := by decide +kernel
theorem dX2_houseOfTurn_12 : decode cX2_houseOfTurn 12 = .ok (.iload_n 3, 1) := by decide +kernel
theorem dX2_houseOfTurn_13 : decode cX2_houseOfTurn 13 = .ok (.invokevirtual 92, 3) := by decide +kernel
theorem dX2_houseOfTurn_16 : decode cX2_houseOfTurn 16 = .ok (.iload_n 2, 1) := by decide +kernel
theorem dX2_houseOfTurn_17 : decode cX2_houseOfTurn 17 = .ok (.if_icmp .ne 5, 3) := by decide +kernel
theorem dX2_houseOfTurn_20 : decode cX2_houseOfTurn 20 = .ok (.iload_n 3, 1) := by decide +kernel
theorem dX2_houseOfTurn_21 : decode cX2_houseOfTurn 21 = .ok (.ireturn, 1) := by decide +kernel
theorem dX2_houseOfTurn_22 : decode cX2_houseOfTurn 22 = .ok (.iinc 3 1, 3) := by decide +kernel
theorem dX2_houseOfTurn_25 : decode cX2_houseOfTurn 25 = .ok (.goto (-23), 3) := by decide +kernel
theorem dX2_houseOfTurn_28 : decode cX2_houseOfTurn 28 = .ok (.iconst 0, 1) := by decide +kernel
theorem dX2_houseOfTurn_29 : decode cX2_houseOfTurn 29 = .ok (.ireturn, 1) := by decide +kernel
set_option maxRecDepth 20000 in
theorem ggX2_lengthOfWalk_X2_houseOfTurn : GoodIn wsX2_lengthOfWalk wsX2_houseOfTurn := goodIn_r _ [10, 1, 11, 12, 13, 9, 14, 15, 16, 17, 18, 19, 20, 21, 22, 23, 24, 25, 26, 27, 28, 29, 30, 31, 32, 33, 34, 35, 36, 37, 38, 39, 40] (by decide +kernel) (by decide +kernel)
set_option maxRecDepth 20000 in
theorem gX2_lengthOfWalk_X2_houseOfTurn : GoodIn wsX2_lengthOfWalk (wsV RX2 250 RX2 yX2_houseOfTurn wsX2_houseOfTurn) := goodIn_app (goodIn_of _ (by decide +kernel)) ggX2_lengthOfWalk_X2_houseOfTurn
theorem dX2_lengthOfWalk_0 : decode cX2_lengthOfWalk 0 = .ok (.iconst 0, 1) := by decide +kernel
theorem dX2_lengthOfWalk_1 : decode cX2_lengthOfWalk 1 = .ok (.istore_n 2, 1) := by decide +kernel
theorem dX2_lengthOfWalk_2 : decode cX2_lengthOfWalk 2 = .ok (.iconst 0, 1) := by decide +kernel
theorem dX2_lengthOfWalk_3 : decode cX2_lengthOfWalk 3 = .ok (.istore_n 3, 1) := by decide +kernel
theorem dX2_lengthOfWalk_4 : decode cX2_lengthOfWalk 4 = .ok (.iconst 0, 1) := by decide +kernel
theorem dX2_lengthOfWalk_5 : decode cX2_lengthOfWalk 5 = .ok (.istore 4, 2) := by decide +kernel
theorem dX2_lengthOfWalk_7 : decode cX2_lengthOfWalk 7 = .ok (.iload 4, 2) := by decide +kernel
theorem dX2_lengthOfWalk_9 : decode cX2_lengthOfWalk 9 = .ok (.aload_n 0, 1) := by decide +kernel
theorem dX2_lengthOfWalk_10 : decode cX2_lengthOfWalk 10 = .ok (.getfield 22, 3) := by decide +kernel
theorem dX2_lengthOfWalk_13 : decode cX2_lengthOfWalk 13 = .ok (.if_icmp .ge 31, 3) := by decide +kernel
theorem dX2_lengthOfWalk_16 : decode cX2_lengthOfWalk 16 = .ok (.aload_n 0, 1) := by decide +kernel
theorem dX2_lengthOfWalk_17 : decode cX2_lengthOfWalk 17 = .ok (.aload_n 1, 1) := by decide +kernel
theorem dX2_lengthOfWalk_18 : decode cX2_lengthOfWalk 18 = .ok (.iload 4, 2) := by decide +kernel
theorem dX2_lengthOfWalk_20 : decode cX2_lengthOfWalk 20 = .ok (.invokevirtual 250, 3) := by decide +kernel
theorem dX2_lengthOfWalk_23 : decode cX2_lengthOfWalk 23 = .ok (.istore 5, 2) := by decide +kernel
theorem dX2_lengthOfWalk_25 : decode cX2_lengthOfWalk 25 = .ok (.iload_n 2, 1) := by decide +kernel
theorem dX2_lengthOfWalk_26 : decode cX2_lengthOfWalk 26 = .ok (.iload 5, 2) := by decide +kernel
theorem dX2_lengthOfWalk_28 : decode cX2_lengthOfWalk 28 = .ok (.iload_n 3, 1) := by decide +kernel
theorem dX2_lengthOfWalk_29 : decode cX2_lengthOfWalk 29 = .ok (.isub, 1) := by decide +kernel
theorem dX2_lengthOfWalk_30 : decode cX2_lengthOfWalk 30 = .ok (.invokestatic 253, 3) := by decide +kernel
theorem dX2_lengthOfWalk_33 : decode cX2_lengthOfWalk 33 = .ok (.iadd, 1) := by decide +kernel
theorem dX2_lengthOfWalk_34 : decode cX2_lengthOfWalk 34 = .ok (.istore_n 2, 1) := by decide +kernel
theorem dX2_lengthOfWalk_35 : decode cX2_lengthOfWalk 35 = .ok (.iload 5, 2) := by decide +kernel
theorem dX2_lengthOfWalk_37 : decode cX2_lengthOfWalk 37 = .ok (.istore_n 3, 1) := by decide +kernel
theorem dX2_lengthOfWalk_38 : decode cX2_lengthOfWalk 38 = .ok (.iinc 4 1, 3) := by decide +kernel
theorem dX2_lengthOfWalk_41 : decode cX2_lengthOfWalk 41 = .ok (.goto (-34), 3) := by decide +kernel
theorem dX2_lengthOfWalk_44 : decode cX2_lengthOfWalk 44 = .ok (.iload_n 2, 1) := by decide +kernel
theorem dX2_lengthOfWalk_45 : decode cX2_lengthOfWalk 45 = .ok (.ireturn, 1) := by decide +kernel
theorem dX2_isDay_0 : decode cX2_isDay 0 = .ok (.aload_n 0, 1) := by decide +kernel
theorem dX2_isDay_1 : decode cX2_isDay 1 = .ok (.getfield 22, 3) := by decide +kernel
theorem dX2_isDay_4 : decode cX2_isDay 4 = .ok (.ifCond .le 22, 3) := by decide +kernel
theorem dX2_isDay_7 : decode cX2_isDay 7 = .ok (.iload_n 1, 1) := by decide +kernel
theorem dX2_isDay_8 : decode cX2_isDay 8 = .ok (.ifCond .lt 18, 3) := by decide +kernel
theorem dX2_isDay_11 : decode cX2_isDay 11 = .ok (.iload_n 1, 1) := by decide +kernel
theorem dX2_isDay_12 : decode cX2_isDay 12 = .ok (.aload_n 0, 1) := by decide +kernel
theorem dX2_isDay_13 : decode cX2_isDay 13 = .ok (.getfield 34, 3) := by decide +kernel
theorem dX2_isDay_16 : decode cX2_isDay 16 = .ok (.getfield 112, 3) := by decide +kernel
theorem dX2_isDay_19 : decode cX2_isDay 19 = .ok (.if_icmp .gt 7, 3) := by decide +kernel
theorem dX2_isDay_22 : decode cX2_isDay 22 = .ok (.iconst 1, 1) := by decide +kernel
theorem dX2_isDay_23 : decode cX2_isDay 23 = .ok (.goto 4, 3) := by decide +kernel
theorem dX2_isDay_26 : decode cX2_isDay 26 = .ok (.iconst 0, 1) := by decide +kernel
theorem dX2_isDay_27 : decode cX2_isDay 27 = .ok (.ireturn, 1) := by decide +kernel
theorem dX2_cellOf_0 : decode cX2_cellOf 0 = .ok (.iload_n 1, 1) := by decide +kernel
theorem dX2_cellOf_1 : decode cX2_cellOf 1 = .ok (.bipush 6, 2) := by decide +kernel
theorem dX2_cellOf_3 : decode cX2_cellOf 3 = .ok (.imul, 1) := by decide +kernel
theorem dX2_cellOf_4 : decode cX2_cellOf 4 = .ok (.iload_n 0, 1) := by decide +kernel
theorem dX2_cellOf_5 : decode cX2_cellOf 5 = .ok (.iadd, 1) := by decide +kernel
theorem dX2_cellOf_6 : decode cX2_cellOf 6 = .ok (.ireturn, 1) := by decide +kernel
set_option maxRecDepth 20000 in
theorem ggX2_numberNow_X2_numberAt : GoodIn wsX2_numberNow wsX2_numberAt := goodIn_r _ [6, 7, 8, 9, 10, 11, 12, 13, 14, 15, 5, 16, 17, 18, 19, 20, 21, 22, 23, 24, 25, 26, 27, 39] (by decide +kernel) (by decide +kernel)
set_option maxRecDepth 20000 in
theorem gX2_numberNow_X2_numberAt : GoodIn wsX2_numberNow (wsV RX2 247 RX2 yX2_numberAt wsX2_numberAt) := goodIn_app (goodIn_of _ (by decide +kernel)) ggX2_numberNow_X2_numberAt
theorem dX2_numberNow_0 : decode cX2_numberNow 0 = .ok (.aload_n 0, 1) := by decide +kernel
theorem dX2_numberNow_1 : decode cX2_numberNow 1 = .ok (.aload_n 0, 1) := by decide +kernel
theorem dX2_numberNow_2 : decode cX2_numberNow 2 = .ok (.getfield 34, 3) := by decide +kernel
theorem dX2_numberNow_5 : decode cX2_numberNow 5 = .ok (.getfield 76, 3) := by decide +kernel
theorem dX2_numberNow_8 : decode cX2_numberNow 8 = .ok (.iload_n 1, 1) := by decide +kernel
theorem dX2_numberNow_9 : decode cX2_numberNow 9 = .ok (.invokevirtual 247, 3) := by decide +kernel
theorem dX2_numberNow_12 : decode cX2_numberNow 12 = .ok (.ireturn, 1) := by decide +kernel
set_option maxRecDepth 20000 in
theorem ggX2_numberOn_X1_at : GoodIn wsX2_numberOn wsX1_at := goodIn_r _ [7, 8, 38] (by decide +kernel) (by decide +kernel)
set_option maxRecDepth 20000 in
theorem gX2_numberOn_X1_at : GoodIn wsX2_numberOn (wsV RX2 58 RX1 yX1_at wsX1_at) := goodIn_app (goodIn_of _ (by decide +kernel)) ggX2_numberOn_X1_at
set_option maxRecDepth 20000 in
theorem ggX2_numberOn_X2_cellOf : GoodIn wsX2_numberOn wsX2_cellOf := goodIn_r _ [12] (by decide +kernel) (by decide +kernel)
set_option maxRecDepth 20000 in
theorem gX2_numberOn_X2_cellOf : GoodIn wsX2_numberOn (va_wsS RX2 118 yX2_cellOf wsX2_cellOf) := goodIn_app (goodIn_of _ (by decide +kernel)) ggX2_numberOn_X2_cellOf
set_option maxRecDepth 20000 in
theorem ggX2_numberOn_X2_numberOf : GoodIn wsX2_numberOn wsX2_numberOf := goodIn_r _ [15] (by decide +kernel) (by decide +kernel)
set_option maxRecDepth 20000 in
theorem gX2_numberOn_X2_numberOf : GoodIn wsX2_numberOn (va_wsS RX2 156 yX2_numberOf wsX2_numberOf) := goodIn_app (goodIn_of _ (by decide +kernel)) ggX2_numberOn_X2_numberOf
theorem dX2_numberOn_0 : decode cX2_numberOn 0 = .ok (.iload_n 2, 1) := by decide +kernel
theorem dX2_numberOn_1 : decode cX2_numberOn 1 = .ok (.aload_n 0, 1) := by decide +kernel
theorem dX2_numberOn_2 : decode cX2_numberOn 2 = .ok (.getfield 34, 3) := by decide +kernel
theorem dX2_numberOn_5 : decode cX2_numberOn 5 = .ok (.getfield 112, 3) := by decide +kernel
theorem dX2_numberOn_8 : decode cX2_numberOn 8 = .ok (.if_icmp .ne 17, 3) := by decide +kernel
theorem dX2_numberOn_11 : decode cX2_numberOn 11 = .ok (.aload_n 0, 1) := by decide +kernel
theorem dX2_numberOn_12 : decode cX2_numberOn 12 = .ok (.getfield 34, 3) := by decide +kernel
theorem dX2_numberOn_15 : decode cX2_numberOn 15 = .ok (.getfield 76, 3) := by decide +kernel
theorem dX2_numberOn_18 : decode cX2_numberOn 18 = .ok (.iload_n 1, 1) := by decide +kernel
theorem dX2_numberOn_19 : decode cX2_numberOn 19 = .ok (.invokevirtual 58, 3) := by decide +kernel
theorem dX2_numberOn_22 : decode cX2_numberOn 22 = .ok (.goto 18, 3) := by decide +kernel
theorem dX2_numberOn_25 : decode cX2_numberOn 25 = .ok (.aload_n 0, 1) := by decide +kernel
theorem dX2_numberOn_26 : decode cX2_numberOn 26 = .ok (.getfield 34, 3) := by decide +kernel
theorem dX2_numberOn_29 : decode cX2_numberOn 29 = .ok (.getfield 115, 3) := by decide +kernel
theorem dX2_numberOn_32 : decode cX2_numberOn 32 = .ok (.iload_n 1, 1) := by decide +kernel
theorem dX2_numberOn_33 : decode cX2_numberOn 33 = .ok (.iload_n 2, 1) := by decide +kernel
theorem dX2_numberOn_34 : decode cX2_numberOn 34 = .ok (.invokestatic 118, 3) := by decide +kernel
theorem dX2_numberOn_37 : decode cX2_numberOn 37 = .ok (.invokevirtual 58, 3) := by decide +kernel
theorem dX2_numberOn_40 : decode cX2_numberOn 40 = .ok (.istore_n 3, 1) := by decide +kernel
theorem dX2_numberOn_41 : decode cX2_numberOn 41 = .ok (.aload_n 0, 1) := by decide +kernel
theorem dX2_numberOn_42 : decode cX2_numberOn 42 = .ok (.getfield 28, 3) := by decide +kernel
theorem dX2_numberOn_45 : decode cX2_numberOn 45 = .ok (.iload_n 1, 1) := by decide +kernel
theorem dX2_numberOn_46 : decode cX2_numberOn 46 = .ok (.invokevirtual 58, 3) := by decide +kernel
theorem dX2_numberOn_49 : decode cX2_numberOn 49 = .ok (.iload_n 3, 1) := by decide +kernel
theorem dX2_numberOn_50 : decode cX2_numberOn 50 = .ok (.invokestatic 156, 3) := by decide +kernel
theorem dX2_numberOn_53 : decode cX2_numberOn 53 = .ok (.ireturn, 1) := by decide +kernel
set_option maxRecDepth 20000 in
theorem ggX2_houseWith_X2_numberOn : GoodIn wsX2_houseWith wsX2_numberOn := goodIn_r _ [6, 7, 8, 9, 10, 11, 12, 13, 14, 15, 16, 5, 17, 18, 19, 20, 21, 22, 23, 24, 25, 26, 27, 28, 29, 30, 31, 32, 33, 34, 35, 36, 37, 38, 39, 40, 41, 42, 43] (by decide +kernel) (by decide +kernel)
set_option maxRecDepth 20000 in
theorem gX2_houseWith_X2_numberOn : GoodIn wsX2_houseWith (wsV RX2 129 RX2 yX2_numberOn wsX2_numberOn) := goodIn_app (goodIn_of _ (by decide +kernel)) ggX2_houseWith_X2_numberOn
theorem dX2_houseWith_0 : decode cX2_houseWith 0 = .ok (.iconst 0, 1) := by decide +kernel
theorem dX2_houseWith_1 : decode cX2_houseWith 1 = .ok (.istore_n 3, 1) := by decide +kernel
theorem dX2_houseWith_2 : decode cX2_houseWith 2 = .ok (.iload_n 3, 1) := by decide +kernel
theorem dX2_houseWith_3 : decode cX2_houseWith 3 = .ok (.aload_n 0, 1) := by decide +kernel
theorem dX2_houseWith_4 : decode cX2_houseWith 4 = .ok (.getfield 22, 3) := by decide +kernel
theorem dX2_houseWith_7 : decode cX2_houseWith 7 = .ok (.if_icmp .ge 21, 3) := by decide +kernel
theorem dX2_houseWith_10 : decode cX2_houseWith 10 = .ok (.aload_n 0, 1) := by decide +kernel
theorem dX2_houseWith_11 : decode cX2_houseWith 11 = .ok (.iload_n 3, 1) := by decide +kernel
theorem dX2_houseWith_12 : decode cX2_houseWith 12 = .ok (.iload_n 2, 1) := by decide +kernel
theorem dX2_houseWith_13 : decode cX2_houseWith 13 = .ok (.invokevirtual 129, 3) := by decide +kernel
theorem dX2_houseWith_16 : decode cX2_houseWith 16 = .ok (.iload_n 1, 1) := by decide +kernel
theorem dX2_houseWith_17 : decode cX2_houseWith 17 = .ok (.if_icmp .ne 5, 3) := by decide +kernel
theorem dX2_houseWith_20 : decode cX2_houseWith 20 = .ok (.iload_n 3, 1) := by decide +kernel
theorem dX2_houseWith_21 : decode cX2_houseWith 21 = .ok (.ireturn, 1) := by decide +kernel
theorem dX2_houseWith_22 : decode cX2_houseWith 22 = .ok (.iinc 3 1, 3) := by decide +kernel
theorem dX2_houseWith_25 : decode cX2_houseWith 25 = .ok (.goto (-23), 3) := by decide +kernel
theorem dX2_houseWith_28 : decode cX2_houseWith 28 = .ok (.iconst (-1), 1) := by decide +kernel
theorem dX2_houseWith_29 : decode cX2_houseWith 29 = .ok (.ireturn, 1) := by decide +kernel
set_option maxRecDepth 20000 in
theorem ggX2_unlikeNumbers_X2_numberNow : GoodIn wsX2_unlikeNumbers wsX2_numberNow := goodIn_r _ [7, 2, 8, 9, 10, 6, 11, 12, 13, 14, 15, 16, 17, 18, 19, 20, 21, 33, 34, 35, 36, 37, 38, 39, 40, 41, 42, 43, 44, 45, 46, 47, 48, 49, 50, 51, 52, 53, 54, 55] (by decide +kernel) (by decide +kernel)
set_option maxRecDepth 20000 in
theorem gX2_unlikeNumbers_X2_numberNow : GoodIn wsX2_unlikeNumbers (wsV RX2 83 RX2 yX2_numberNow wsX2_numberNow) := goodIn_app (goodIn_of _ (by decide +kernel)) ggX2_unlikeNumbers_X2_numberNow
set_option maxRecDepth 20000 in
theorem ggX2_unlikeNumbers_X2_houseWith : GoodIn wsX2_unlikeNumbers wsX2_houseWith := goodIn_r _ [25, 1, 26, 27, 28, 6, 29, 2, 12, 13, 14, 15, 16, 17, 18, 30, 31, 32, 19, 20, 21, 33, 34, 35, 36, 37, 38, 39, 40, 41, 42, 43, 44, 45, 46, 47, 48, 49, 50, 51, 52, 53, 54, 55] (by decide +kernel) (by decide +kernel)
set_option maxRecDepth 20000 in
theorem gX2_unlikeNumbers_X2_houseWith : GoodIn wsX2_unlikeNumbers (wsV RX2 132 RX2 yX2_houseWith wsX2_houseWith) := goodIn_app (goodIn_of _ (by decide +kernel)) ggX2_unlikeNumbers_X2_houseWith
theorem dX2_unlikeNumbers_0 : decode cX2_unlikeNumbers 0 = .ok (.iconst 0, 1) := by decide +kernel
theorem dX2_unlikeNumbers_1 : decode cX2_unlikeNumbers 1 = .ok (.istore_n 1, 1) := by decide +kernel
theorem dX2_unlikeNumbers_2 : decode cX2_unlikeNumbers 2 = .ok (.iconst 0, 1) := by decide +kernel
theorem dX2_unlikeNumbers_3 : decode cX2_unlikeNumbers 3 = .ok (.istore_n 2, 1) := by decide +kernel
theorem dX2_unlikeNumbers_4 : decode cX2_unlikeNumbers 4 = .ok (.iload_n 2, 1) := by decide +kernel
theorem dX2_unlikeNumbers_5 : decode cX2_unlikeNumbers 5 = .ok (.aload_n 0, 1) := by decide +kernel
theorem dX2_unlikeNumbers_6 : decode cX2_unlikeNumbers 6 = .ok (.getfield 22, 3) := by decide +kernel
theorem dX2_unlikeNumbers_9 : decode cX2_unlikeNumbers 9 = .ok (.if_icmp .ge 32, 3) := by decide +kernel
theorem dX2_unlikeNumbers_12 : decode cX2_unlikeNumbers 12 = .ok (.aload_n 0, 1) := by decide +kernel
theorem dX2_unlikeNumbers_13 : decode cX2_unlikeNumbers 13 = .ok (.aload_n 0, 1) := by decide +kernel
theorem dX2_unlikeNumbers_14 : decode cX2_unlikeNumbers 14 = .ok (.iload_n 2, 1) := by decide +kernel
theorem dX2_unlikeNumbers_15 : decode cX2_unlikeNumbers 15 = .ok (.invokevirtual 83, 3) := by decide +kernel
theorem dX2_unlikeNumbers_18 : decode cX2_unlikeNumbers 18 = .ok (.aload_n 0, 1) := by decide +kernel
theorem dX2_unlikeNumbers_19 : decode cX2_unlikeNumbers 19 = .ok (.getfield 34, 3) := by decide +kernel
theorem dX2_unlikeNumbers_22 : decode cX2_unlikeNumbers 22 = .ok (.getfield 112, 3) := by decide +kernel
theorem dX2_unlikeNumbers_25 : decode cX2_unlikeNumbers 25 = .ok (.invokevirtual 132, 3) := by decide +kernel
theorem dX2_unlikeNumbers_28 : decode cX2_unlikeNumbers 28 = .ok (.iload_n 2, 1) := by decide +kernel
theorem dX2_unlikeNumbers_29 : decode cX2_unlikeNumbers 29 = .ok (.if_icmp .ne 6, 3) := by decide +kernel
theorem dX2_unlikeNumbers_32 : decode cX2_unlikeNumbers 32 = .ok (.iinc 1 1, 3) := by decide +kernel
theorem dX2_unlikeNumbers_35 : decode cX2_unlikeNumbers 35 = .ok (.iinc 2 1, 3) := by decide +kernel
theorem dX2_unlikeNumbers_38 : decode cX2_unlikeNumbers 38 = .ok (.goto (-34), 3) := by decide +kernel
theorem dX2_unlikeNumbers_41 : decode cX2_unlikeNumbers 41 = .ok (.iload_n 1, 1) := by decide +kernel
theorem dX2_unlikeNumbers_42 : decode cX2_unlikeNumbers 42 = .ok (.ireturn, 1) := by decide +kernel
set_option maxRecDepth 20000 in
theorem ggX2_owedBy_X1_at : GoodIn wsX2_owedBy wsX1_at := goodIn_r _ [6, 7, 47] (by decide +kernel) (by decide +kernel)
set_option maxRecDepth 20000 in
theorem gX2_owedBy_X1_at : GoodIn wsX2_owedBy (wsV RX2 58 RX1 yX1_at wsX1_at) := goodIn_app (goodIn_of _ (by decide +kernel)) ggX2_owedBy_X1_at
set_option maxRecDepth 20000 in
theorem ggX2_owedBy_X2_houseWith : GoodIn wsX2_owedBy wsX2_houseWith := goodIn_r _ [12, 13, 14, 15, 16, 11, 17, 1, 18, 2, 3, 4, 5, 6, 7, 19, 20, 21, 22, 23, 24, 25, 26, 27, 28, 29, 30, 31, 32, 33, 34, 35, 36, 37, 38, 39, 40, 41, 42, 43, 44, 45, 46, 47] (by decide +kernel) (by decide +kernel)
set_option maxRecDepth 20000 in
theorem gX2_owedBy_X2_houseWith : GoodIn wsX2_owedBy (wsV RX2 132 RX2 yX2_houseWith wsX2_houseWith) := goodIn_app (goodIn_of _ (by decide +kernel)) ggX2_owedBy_X2_houseWith
theorem dX2_owedBy_0 : decode cX2_owedBy 0 = .ok (.iconst 0, 1) := by decide +kernel
theorem dX2_owedBy_1 : decode cX2_owedBy 1 = .ok (.istore_n 2, 1) := by decide +kernel
theorem dX2_owedBy_2 : decode cX2_owedBy 2 = .ok (.iconst 0, 1) := by decide +kernel
theorem dX2_owedBy_3 : decode cX2_owedBy 3 = .ok (.istore_n 3, 1) := by decide +kernel
theorem dX2_owedBy_4 : decode cX2_owedBy 4 = .ok (.iload_n 3, 1) := by decide +kernel
theorem dX2_owedBy_5 : decode cX2_owedBy 5 = .ok (.aload_n 0, 1) := by decide +kernel
theorem dX2_owedBy_6 : decode cX2_owedBy 6 = .ok (.getfield 34, 3) := by decide +kernel
theorem dX2_owedBy_9 : decode cX2_owedBy 9 = .ok (.getfield 139, 3) := by decide +kernel
theorem dX2_owedBy_12 : decode cX2_owedBy 12 = .ok (.if_icmp .ge 49, 3) := by decide +kernel
theorem dX2_owedBy_15 : decode cX2_owedBy 15 = .ok (.aload_n 0, 1) := by decide +kernel
theorem dX2_owedBy_16 : decode cX2_owedBy 16 = .ok (.aload_n 0, 1) := by decide +kernel
theorem dX2_owedBy_17 : decode cX2_owedBy 17 = .ok (.getfield 34, 3) := by decide +kernel
theorem dX2_owedBy_20 : decode cX2_owedBy 20 = .ok (.getfield 145, 3) := by decide +kernel
theorem dX2_owedBy_23 : decode cX2_owedBy 23 = .ok (.iload_n 3, 1) := by decide +kernel
theorem dX2_owedBy_24 : decode cX2_owedBy 24 = .ok (.invokevirtual 58, 3) := by decide +kernel
theorem dX2_owedBy_27 : decode cX2_owedBy 27 = .ok (.aload_n 0, 1) := by decide +kernel
theorem dX2_owedBy_28 : decode cX2_owedBy 28 = .ok (.getfield 34, 3) := by decide +kernel
theorem dX2_owedBy_31 : decode cX2_owedBy 31 = .ok (.getfield 112, 3) := by decide +kernel
theorem dX2_owedBy_34 : decode cX2_owedBy 34 = .ok (.invokevirtual 132, 3) := by decide +kernel
theorem dX2_owedBy_37 : decode cX2_owedBy 37 = .ok (.iload_n 1, 1) := by decide +kernel
theorem dX2_owedBy_38 : decode cX2_owedBy 38 = .ok (.if_icmp .ne 17, 3) := by decide +kernel
theorem dX2_owedBy_41 : decode cX2_owedBy 41 = .ok (.iload_n 2, 1) := by decide +kernel
theorem dX2_owedBy_42 : decode cX2_owedBy 42 = .ok (.aload_n 0, 1) := by decide +kernel
theorem dX2_owedBy_43 : decode cX2_owedBy 43 = .ok (.getfield 34, 3) := by decide +kernel
theorem dX2_owedBy_46 : decode cX2_owedBy 46 = .ok (.getfield 142, 3) := by decide +kernel
theorem dX2_owedBy_49 : decode cX2_owedBy 49 = .ok (.iload_n 3, 1) := by decide +kernel
theorem dX2_owedBy_50 : decode cX2_owedBy 50 = .ok (.invokevirtual 58, 3) := by decide +kernel
theorem dX2_owedBy_53 : decode cX2_owedBy 53 = .ok (.iadd, 1) := by decide +kernel
theorem dX2_owedBy_54 : decode cX2_owedBy 54 = .ok (.istore_n 2, 1) := by decide +kernel
theorem dX2_owedBy_55 : decode cX2_owedBy 55 = .ok (.iinc 3 1, 3) := by decide +kernel
theorem dX2_owedBy_58 : decode cX2_owedBy 58 = .ok (.goto (-54), 3) := by decide +kernel
theorem dX2_owedBy_61 : decode cX2_owedBy 61 = .ok (.iload_n 2, 1) := by decide +kernel
theorem dX2_owedBy_62 : decode cX2_owedBy 62 = .ok (.ireturn, 1) := by decide +kernel
set_option maxRecDepth 20000 in
theorem ggX2_owedByAll_X2_owedBy : GoodIn wsX2_owedByAll wsX2_owedBy := goodIn_r _ [6, 7, 8, 9, 10, 11, 12, 13, 14, 15, 16, 5, 17, 1, 18, 19, 20, 21, 22, 23, 24, 25, 26, 27, 28, 29, 30, 31, 32, 33, 34, 35, 36, 37, 38, 39, 40, 41, 42, 43, 44, 45, 46, 47, 48, 49, 50, 51] (by decide +kernel) (by decide +kernel)
set_option maxRecDepth 20000 in
theorem gX2_owedByAll_X2_owedBy : GoodIn wsX2_owedByAll (wsV RX2 89 RX2 yX2_owedBy wsX2_owedBy) := goodIn_app (goodIn_of _ (by decide +kernel)) ggX2_owedByAll_X2_owedBy
theorem dX2_owedByAll_0 : decode cX2_owedByAll 0 = .ok (.iconst 0, 1) := by decide +kernel
theorem dX2_owedByAll_1 : decode cX2_owedByAll 1 = .ok (.istore_n 1, 1) := by decide +kernel
theorem dX2_owedByAll_2 : decode cX2_owedByAll 2 = .ok (.iconst 0, 1) := by decide +kernel
theorem dX2_owedByAll_3 : decode cX2_owedByAll 3 = .ok (.istore_n 2, 1) := by decide +kernel
theorem dX2_owedByAll_4 : decode cX2_owedByAll 4 = .ok (.iload_n 2, 1) := by decide +kernel
theorem dX2_owedByAll_5 : decode cX2_owedByAll 5 = .ok (.aload_n 0, 1) := by decide +kernel
theorem dX2_owedByAll_6 : decode cX2_owedByAll 6 = .ok (.getfield 22, 3) := by decide +kernel
theorem dX2_owedByAll_9 : decode cX2_owedByAll 9 = .ok (.if_icmp .ge 17, 3) := by decide +kernel
theorem dX2_owedByAll_12 : decode cX2_owedByAll 12 = .ok (.iload_n 1, 1) := by decide +kernel
theorem dX2_owedByAll_13 : decode cX2_owedByAll 13 = .ok (.aload_n 0, 1) := by decide +kernel
theorem dX2_owedByAll_14 : decode cX2_owedByAll 14 = .ok (.iload_n 2, 1) := by decide +kernel
theorem dX2_owedByAll_15 : decode cX2_owedByAll 15 = .ok (.invokevirtual 89, 3) := by decide +kernel
theorem dX2_owedByAll_18 : decode cX2_owedByAll 18 = .ok (.iadd, 1) := by decide +kernel
theorem dX2_owedByAll_19 : decode cX2_owedByAll 19 = .ok (.istore_n 1, 1) := by decide +kernel
theorem dX2_owedByAll_20 : decode cX2_owedByAll 20 = .ok (.iinc 2 1, 3) := by decide +kernel
theorem dX2_owedByAll_23 : decode cX2_owedByAll 23 = .ok (.goto (-19), 3) := by decide +kernel
theorem dX2_owedByAll_26 : decode cX2_owedByAll 26 = .ok (.iload_n 1, 1) := by decide +kernel
theorem dX2_owedByAll_27 : decode cX2_owedByAll 27 = .ok (.ireturn, 1) := by decide +kernel
set_option maxRecDepth 20000 in
theorem ggX2_cheapestSet_J6_bitCount_0f7a4 : GoodIn wsX2_cheapestSet wsJ6_bitCount_0f7a4 := goodIn_r _ [5, 6, 7, 8] (by decide +kernel) (by decide +kernel)
set_option maxRecDepth 20000 in
theorem gX2_cheapestSet_J6_bitCount_0f7a4 : GoodIn wsX2_cheapestSet (va_wsS RX2 151 yJ6_bitCount_0f7a4 wsJ6_bitCount_0f7a4) := goodIn_app (goodIn_of _ (by decide +kernel)) ggX2_cheapestSet_J6_bitCount_0f7a4
set_option maxRecDepth 20000 in
theorem ggX2_cheapestSet_X2_mayAllBear : GoodIn wsX2_cheapestSet wsX2_mayAllBear := goodIn_r _ [13, 1, 14, 15, 16, 12, 17, 18, 19, 20, 21, 22, 23, 24, 25, 26, 65, 66, 67, 68, 69, 70, 71, 72, 73, 74, 75, 76] (by decide +kernel) (by decide +kernel)
set_option maxRecDepth 20000 in
theorem gX2_cheapestSet_X2_mayAllBear : GoodIn wsX2_cheapestSet (wsV RX2 258 RX2 yX2_mayAllBear wsX2_mayAllBear) := goodIn_app (goodIn_of _ (by decide +kernel)) ggX2_cheapestSet_X2_mayAllBear
set_option maxRecDepth 20000 in
theorem ggX2_cheapestSet_X2_numbersBy : GoodIn wsX2_cheapestSet wsX2_numbersBy := goodIn_r _ [30, 31, 32, 1, 33, 34, 35, 21, 36, 23, 37, 19, 20, 22, 15, 16, 12, 17, 38, 39, 40, 41, 42, 43, 44, 45, 46, 47, 48, 49, 14, 50, 51, 52, 53, 18, 24, 25, 26, 54, 55, 56, 57, 58, 59, 60, 61, 62, 63, 64, 65, 66, 67, 68, 69, 70, 71, 72, 73, 74, 75, 77, 78, 79, 80, 81, 82, 83, 84, 85, 86, 87, 76] (by decide +kernel) (by decide +kernel)
set_option maxRecDepth 20000 in
theorem gX2_cheapestSet_X2_numbersBy : GoodIn wsX2_cheapestSet (wsV RX2 261 RX2 yX2_numbersBy wsX2_numbersBy) := goodIn_app (goodIn_of _ (by decide +kernel)) ggX2_cheapestSet_X2_numbersBy
theorem dX2_cheapestSet_0 : decode cX2_cheapestSet 0 = .ok (.iconst (-1), 1) := by decide +kernel
theorem dX2_cheapestSet_1 : decode cX2_cheapestSet 1 = .ok (.istore_n 2, 1) := by decide +kernel
theorem dX2_cheapestSet_2 : decode cX2_cheapestSet 2 = .ok (.iconst 0, 1) := by decide +kernel
theorem dX2_cheapestSet_3 : decode cX2_cheapestSet 3 = .ok (.istore_n 3, 1) := by decide +kernel
theorem dX2_cheapestSet_4 : decode cX2_cheapestSet 4 = .ok (.iload_n 3, 1) := by decide +kernel
theorem dX2_cheapestSet_5 : decode cX2_cheapestSet 5 = .ok (.iconst 1, 1) := by decide +kernel
theorem dX2_cheapestSet_6 : decode cX2_cheapestSet 6 = .ok (.aload_n 0, 1) := by decide +kernel
theorem dX2_cheapestSet_7 : decode cX2_cheapestSet 7 = .ok (.getfield 22, 3) := by decide +kernel
theorem dX2_cheapestSet_10 : decode cX2_cheapestSet 10 = .ok (.ishl, 1) := by decide +kernel
theorem dX2_cheapestSet_11 : decode cX2_cheapestSet 11 = .ok (.if_icmp .ge 56, 3) := by decide +kernel
theorem dX2_cheapestSet_14 : decode cX2_cheapestSet 14 = .ok (.iload_n 2, 1) := by decide +kernel
theorem dX2_cheapestSet_15 : decode cX2_cheapestSet 15 = .ok (.iconst (-1), 1) := by decide +kernel
theorem dX2_cheapestSet_16 : decode cX2_cheapestSet 16 = .ok (.if_icmp .eq 14, 3) := by decide +kernel
theorem dX2_cheapestSet_19 : decode cX2_cheapestSet 19 = .ok (.iload_n 3, 1) := by decide +kernel
theorem dX2_cheapestSet_20 : decode cX2_cheapestSet 20 = .ok (.invokestatic 151, 3) := by decide +kernel
theorem dX2_cheapestSet_23 : decode cX2_cheapestSet 23 = .ok (.iload_n 2, 1) := by decide +kernel
theorem dX2_cheapestSet_24 : decode cX2_cheapestSet 24 = .ok (.invokestatic 151, 3) := by decide +kernel
theorem dX2_cheapestSet_27 : decode cX2_cheapestSet 27 = .ok (.if_icmp .ge 7, 3) := by decide +kernel
theorem dX2_cheapestSet_30 : decode cX2_cheapestSet 30 = .ok (.iconst 1, 1) := by decide +kernel
theorem dX2_cheapestSet_31 : decode cX2_cheapestSet 31 = .ok (.goto 4, 3) := by decide +kernel
theorem dX2_cheapestSet_34 : decode cX2_cheapestSet 34 = .ok (.iconst 0, 1) := by decide +kernel
theorem dX2_cheapestSet_35 : decode cX2_cheapestSet 35 = .ok (.istore 4, 2) := by decide +kernel
theorem dX2_cheapestSet_37 : decode cX2_cheapestSet 37 = .ok (.iload 4, 2) := by decide +kernel
theorem dX2_cheapestSet_39 : decode cX2_cheapestSet 39 = .ok (.ifCond .eq 22, 3) := by decide +kernel
theorem dX2_cheapestSet_42 : decode cX2_cheapestSet 42 = .ok (.aload_n 0, 1) := by decide +kernel
theorem dX2_cheapestSet_43 : decode cX2_cheapestSet 43 = .ok (.iload_n 3, 1) := by decide +kernel
theorem dX2_cheapestSet_44 : decode cX2_cheapestSet 44 = .ok (.invokevirtual 258, 3) := by decide +kernel
theorem dX2_cheapestSet_47 : decode cX2_cheapestSet 47 = .ok (.ifCond .eq 14, 3) := by decide +kernel
theorem dX2_cheapestSet_50 : decode cX2_cheapestSet 50 = .ok (.aload_n 0, 1) := by decide +kernel
theorem dX2_cheapestSet_51 : decode cX2_cheapestSet 51 = .ok (.iload_n 3, 1) := by decide +kernel
theorem dX2_cheapestSet_52 : decode cX2_cheapestSet 52 = .ok (.invokevirtual 261, 3) := by decide +kernel
theorem dX2_cheapestSet_55 : decode cX2_cheapestSet 55 = .ok (.iload_n 1, 1) := by decide +kernel
theorem dX2_cheapestSet_56 : decode cX2_cheapestSet 56 = .ok (.if_icmp .gt 5, 3) := by decide +kernel
theorem dX2_cheapestSet_59 : decode cX2_cheapestSet 59 = .ok (.iload_n 3, 1) := by decide +kernel
theorem dX2_cheapestSet_60 : decode cX2_cheapestSet 60 = .ok (.istore_n 2, 1) := by decide +kernel
theorem dX2_cheapestSet_61 : decode cX2_cheapestSet 61 = .ok (.iinc 3 1, 3) := by decide +kernel
theorem dX2_cheapestSet_64 : decode cX2_cheapestSet 64 = .ok (.goto (-60), 3) := by decide +kernel
theorem dX2_cheapestSet_67 : decode cX2_cheapestSet 67 = .ok (.iload_n 2, 1) := by decide +kernel
theorem dX2_cheapestSet_68 : decode cX2_cheapestSet 68 = .ok (.ireturn, 1) := by decide +kernel
theorem dX2_isIn_0 : decode cX2_isIn 0 = .ok (.iload_n 0, 1) := by decide +kernel
theorem dX2_isIn_1 : decode cX2_isIn 1 = .ok (.iload_n 1, 1) := by decide +kernel
theorem dX2_isIn_2 : decode cX2_isIn 2 = .ok (.ishr, 1) := by decide +kernel
theorem dX2_isIn_3 : decode cX2_isIn 3 = .ok (.iconst 1, 1) := by decide +kernel
theorem dX2_isIn_4 : decode cX2_isIn 4 = .ok (.iand, 1) := by decide +kernel
theorem dX2_isIn_5 : decode cX2_isIn 5 = .ok (.iconst 1, 1) := by decide +kernel
theorem dX2_isIn_6 : decode cX2_isIn 6 = .ok (.if_icmp .ne 7, 3) := by decide +kernel
theorem dX2_isIn_9 : decode cX2_isIn 9 = .ok (.iconst 1, 1) := by decide +kernel
theorem dX2_isIn_10 : decode cX2_isIn 10 = .ok (.goto 4, 3) := by decide +kernel
theorem dX2_isIn_13 : decode cX2_isIn 13 = .ok (.iconst 0, 1) := by decide +kernel
theorem dX2_isIn_14 : decode cX2_isIn 14 = .ok (.ireturn, 1) := by decide +kernel
set_option maxRecDepth 20000 in
theorem ggX2_mayAllBear_X2_isIn : GoodIn wsX2_mayAllBear wsX2_isIn := goodIn_r _ [6] (by decide +kernel) (by decide +kernel)
set_option maxRecDepth 20000 in
theorem gX2_mayAllBear_X2_isIn : GoodIn wsX2_mayAllBear (va_wsS RX2 264 yX2_isIn wsX2_isIn) := goodIn_app (goodIn_of _ (by decide +kernel)) ggX2_mayAllBear_X2_isIn
set_option maxRecDepth 20000 in
theorem ggX2_mayAllBear_X1_at : GoodIn wsX2_mayAllBear wsX1_at := goodIn_r _ [11, 12, 27] (by decide +kernel) (by decide +kernel)
set_option maxRecDepth 20000 in
theorem gX2_mayAllBear_X1_at : GoodIn wsX2_mayAllBear (wsV RX2 58 RX1 yX1_at wsX1_at) := goodIn_app (goodIn_of _ (by decide +kernel)) ggX2_mayAllBear_X1_at
set_option maxRecDepth 20000 in
theorem ggX2_mayAllBear_X2_isA : GoodIn wsX2_mayAllBear wsX2_isA := goodIn_r _ [15] (by decide +kernel) (by decide +kernel)
set_option maxRecDepth 20000 in
theorem gX2_mayAllBear_X2_isA : GoodIn wsX2_mayAllBear (va_wsS RX2 96 yX2_isA wsX2_isA) := goodIn_app (goodIn_of _ (by decide +kernel)) ggX2_mayAllBear_X2_isA
theorem dX2_mayAllBear_0 : decode cX2_mayAllBear 0 = .ok (.iconst 0, 1) := by decide +kernel
theorem dX2_mayAllBear_1 : decode cX2_mayAllBear 1 = .ok (.istore_n 2, 1) := by decide +kernel
theorem dX2_mayAllBear_2 : decode cX2_mayAllBear 2 = .ok (.iload_n 2, 1) := by decide +kernel
theorem dX2_mayAllBear_3 : decode cX2_mayAllBear 3 = .ok (.aload_n 0, 1) := by decide +kernel
theorem dX2_mayAllBear_4 : decode cX2_mayAllBear 4 = .ok (.getfield 22, 3) := by decide +kernel
theorem dX2_mayAllBear_7 : decode cX2_mayAllBear 7 = .ok (.if_icmp .ge 34, 3) := by decide +kernel
theorem dX2_mayAllBear_10 : decode cX2_mayAllBear 10 = .ok (.iload_n 1, 1) := by decide +kernel
theorem dX2_mayAllBear_11 : decode cX2_mayAllBear 11 = .ok (.iload_n 2, 1) := by decide +kernel
theorem dX2_mayAllBear_12 : decode cX2_mayAllBear 12 = .ok (.invokestatic 264, 3) := by decide +kernel
theorem dX2_mayAllBear_15 : decode cX2_mayAllBear 15 = .ok (.ifCond .eq 20, 3) := by decide +kernel
theorem dX2_mayAllBear_18 : decode cX2_mayAllBear 18 = .ok (.aload_n 0, 1) := by decide +kernel
theorem dX2_mayAllBear_19 : decode cX2_mayAllBear 19 = .ok (.getfield 28, 3) := by decide +kernel
theorem dX2_mayAllBear_22 : decode cX2_mayAllBear 22 = .ok (.iload_n 2, 1) := by decide +kernel
theorem dX2_mayAllBear_23 : decode cX2_mayAllBear 23 = .ok (.invokevirtual 58, 3) := by decide +kernel
theorem dX2_mayAllBear_26 : decode cX2_mayAllBear 26 = .ok (.iconst 2, 1) := by decide +kernel
theorem dX2_mayAllBear_27 : decode cX2_mayAllBear 27 = .ok (.invokestatic 96, 3) := by decide +kernel
theorem dX2_mayAllBear_30 : decode cX2_mayAllBear 30 = .ok (.ifCond .eq 5, 3) := by decide +kernel
theorem dX2_mayAllBear_33 : decode cX2_mayAllBear 33 = .ok (.iconst 0, 1) := by decide +kernel
theorem dX2_mayAllBear_34 : decode cX2_mayAllBear 34 = .ok (.ireturn, 1) := by decide +kernel
theorem dX2_mayAllBear_35 : decode cX2_mayAllBear 35 = .ok (.iinc 2 1, 3) := by decide +kernel
theorem dX2_mayAllBear_38 : decode cX2_mayAllBear 38 = .ok (.goto (-36), 3) := by decide +kernel
theorem dX2_mayAllBear_41 : decode cX2_mayAllBear 41 = .ok (.iconst 1, 1) := by decide +kernel
theorem dX2_mayAllBear_42 : decode cX2_mayAllBear 42 = .ok (.ireturn, 1) := by decide +kernel
set_option maxRecDepth 20000 in
theorem ggX2_numbersBy_X1_take : GoodIn wsX2_numbersBy wsX1_take := goodIn_r _ [8, 9, 10, 11, 12, 7, 13, 72] (by decide +kernel) (by decide +kernel)
set_option maxRecDepth 20000 in
theorem gX2_numbersBy_X1_take : GoodIn wsX2_numbersBy (wsV RX2 180 RX1 yX1_take wsX1_take) := goodIn_app (goodIn_of _ (by decide +kernel)) ggX2_numbersBy_X1_take
set_option maxRecDepth 20000 in
theorem ggX2_numbersBy_X2_isIn : GoodIn wsX2_numbersBy wsX2_isIn := goodIn_r _ [17] (by decide +kernel) (by decide +kernel)
set_option maxRecDepth 20000 in
theorem gX2_numbersBy_X2_isIn : GoodIn wsX2_numbersBy (va_wsS RX2 264 yX2_isIn wsX2_isIn) := goodIn_app (goodIn_of _ (by decide +kernel)) ggX2_numbersBy_X2_isIn
set_option maxRecDepth 20000 in
theorem ggX2_numbersBy_X2_bear : GoodIn wsX2_numbersBy wsX2_bear := goodIn_r _ [21, 22, 23, 24, 7, 25, 9, 26, 27, 28, 16, 29, 30, 31, 32, 33, 34, 3, 35, 11, 12, 13, 36, 37, 38, 72, 50, 51, 52, 53, 54, 55, 56, 57, 58, 59, 60] (by decide +kernel) (by decide +kernel)
set_option maxRecDepth 20000 in
theorem gX2_numbersBy_X2_bear : GoodIn wsX2_numbersBy (wsV RX2 99 RX2 yX2_bear wsX2_bear) := goodIn_app (goodIn_of _ (by decide +kernel)) ggX2_numbersBy_X2_bear
set_option maxRecDepth 20000 in
theorem ggX2_numbersBy_X2_allNumbers : GoodIn wsX2_numbersBy wsX2_allNumbers := goodIn_r _ [42, 3, 43, 44, 45, 16, 46, 30, 35, 11, 12, 7, 13, 9, 47, 48, 49, 50, 51, 52, 53, 54, 55, 56, 57, 58, 59, 60, 72] (by decide +kernel) (by decide +kernel)
set_option maxRecDepth 20000 in
theorem gX2_numbersBy_X2_allNumbers : GoodIn wsX2_numbersBy (wsV RX2 192 RX2 yX2_allNumbers wsX2_allNumbers) := goodIn_app (goodIn_of _ (by decide +kernel)) ggX2_numbersBy_X2_allNumbers
theorem dX2_numbersBy_0 : decode cX2_numbersBy 0 = .ok (.aload_n 0, 1) := by decide +kernel
theorem dX2_numbersBy_1 : decode cX2_numbersBy 1 = .ok (.getfield 45, 3) := by decide +kernel
theorem dX2_numbersBy_4 : decode cX2_numbersBy 4 = .ok (.aload_n 0, 1) := by decide +kernel
theorem dX2_numbersBy_5 : decode cX2_numbersBy 5 = .ok (.getfield 34, 3) := by decide +kernel
theorem dX2_numbersBy_8 : decode cX2_numbersBy 8 = .ok (.getfield 76, 3) := by decide +kernel
theorem dX2_numbersBy_11 : decode cX2_numbersBy 11 = .ok (.invokevirtual 180, 3) := by decide +kernel
theorem dX2_numbersBy_14 : decode cX2_numbersBy 14 = .ok (.iconst 0, 1) := by decide +kernel
theorem dX2_numbersBy_15 : decode cX2_numbersBy 15 = .ok (.istore_n 2, 1) := by decide +kernel
theorem dX2_numbersBy_16 : decode cX2_numbersBy 16 = .ok (.iload_n 2, 1) := by decide +kernel
theorem dX2_numbersBy_17 : decode cX2_numbersBy 17 = .ok (.aload_n 0, 1) := by decide +kernel
theorem dX2_numbersBy_18 : decode cX2_numbersBy 18 = .ok (.getfield 22, 3) := by decide +kernel
theorem dX2_numbersBy_21 : decode cX2_numbersBy 21 = .ok (.if_icmp .ge 26, 3) := by decide +kernel
theorem dX2_numbersBy_24 : decode cX2_numbersBy 24 = .ok (.iload_n 1, 1) := by decide +kernel
theorem dX2_numbersBy_25 : decode cX2_numbersBy 25 = .ok (.iload_n 2, 1) := by decide +kernel
theorem dX2_numbersBy_26 : decode cX2_numbersBy 26 = .ok (.invokestatic 264, 3) := by decide +kernel
theorem dX2_numbersBy_29 : decode cX2_numbersBy 29 = .ok (.ifCond .eq 12, 3) := by decide +kernel
theorem dX2_numbersBy_32 : decode cX2_numbersBy 32 = .ok (.aload_n 0, 1) := by decide +kernel
theorem dX2_numbersBy_33 : decode cX2_numbersBy 33 = .ok (.aload_n 0, 1) := by decide +kernel
theorem dX2_numbersBy_34 : decode cX2_numbersBy 34 = .ok (.getfield 45, 3) := by decide +kernel
theorem dX2_numbersBy_37 : decode cX2_numbersBy 37 = .ok (.iload_n 2, 1) := by decide +kernel
theorem dX2_numbersBy_38 : decode cX2_numbersBy 38 = .ok (.invokevirtual 99, 3) := by decide +kernel
theorem dX2_numbersBy_41 : decode cX2_numbersBy 41 = .ok (.iinc 2 1, 3) := by decide +kernel
theorem dX2_numbersBy_44 : decode cX2_numbersBy 44 = .ok (.goto (-28), 3) := by decide +kernel
theorem dX2_numbersBy_47 : decode cX2_numbersBy 47 = .ok (.aload_n 0, 1) := by decide +kernel
theorem dX2_numbersBy_48 : decode cX2_numbersBy 48 = .ok (.aload_n 0, 1) := by decide +kernel
theorem dX2_numbersBy_49 : decode cX2_numbersBy 49 = .ok (.getfield 45, 3) := by decide +kernel
theorem dX2_numbersBy_52 : decode cX2_numbersBy 52 = .ok (.invokevirtual 192, 3) := by decide +kernel
theorem dX2_numbersBy_55 : decode cX2_numbersBy 55 = .ok (.ireturn, 1) := by decide +kernel
set_option maxRecDepth 20000 in
theorem ggX2_canHaveBeen_X1_at : GoodIn wsX2_canHaveBeen wsX1_at := goodIn_r _ [6, 7, 42] (by decide +kernel) (by decide +kernel)
set_option maxRecDepth 20000 in
theorem gX2_canHaveBeen_X1_at : GoodIn wsX2_canHaveBeen (wsV RX2 58 RX1 yX1_at wsX1_at) := goodIn_app (goodIn_of _ (by decide +kernel)) ggX2_canHaveBeen_X1_at
set_option maxRecDepth 20000 in
theorem ggX2_canHaveBeen_X2_numberOn : GoodIn wsX2_canHaveBeen wsX2_numberOn := goodIn_r _ [12, 1, 13, 2, 3, 4, 5, 6, 7, 14, 15, 11, 16, 17, 18, 19, 20, 21, 22, 23, 24, 25, 26, 27, 28, 29, 30, 31, 32, 33, 34, 35, 36, 37, 38, 39, 40, 41, 42] (by decide +kernel) (by decide +kernel)
set_option maxRecDepth 20000 in
theorem gX2_canHaveBeen_X2_numberOn : GoodIn wsX2_canHaveBeen (wsV RX2 129 RX2 yX2_numberOn wsX2_numberOn) := goodIn_app (goodIn_of _ (by decide +kernel)) ggX2_canHaveBeen_X2_numberOn
theorem dX2_canHaveBeen_0 : decode cX2_canHaveBeen 0 = .ok (.iconst 0, 1) := by decide +kernel
theorem dX2_canHaveBeen_1 : decode cX2_canHaveBeen 1 = .ok (.istore_n 2, 1) := by decide +kernel
theorem dX2_canHaveBeen_2 : decode cX2_canHaveBeen 2 = .ok (.iload_n 2, 1) := by decide +kernel
theorem dX2_canHaveBeen_3 : decode cX2_canHaveBeen 3 = .ok (.aload_n 0, 1) := by decide +kernel
theorem dX2_canHaveBeen_4 : decode cX2_canHaveBeen 4 = .ok (.getfield 34, 3) := by decide +kernel
theorem dX2_canHaveBeen_7 : decode cX2_canHaveBeen 7 = .ok (.getfield 162, 3) := by decide +kernel
theorem dX2_canHaveBeen_10 : decode cX2_canHaveBeen 10 = .ok (.if_icmp .ge 41, 3) := by decide +kernel
theorem dX2_canHaveBeen_13 : decode cX2_canHaveBeen 13 = .ok (.aload_n 0, 1) := by decide +kernel
theorem dX2_canHaveBeen_14 : decode cX2_canHaveBeen 14 = .ok (.aload_n 0, 1) := by decide +kernel
theorem dX2_canHaveBeen_15 : decode cX2_canHaveBeen 15 = .ok (.getfield 34, 3) := by decide +kernel
theorem dX2_canHaveBeen_18 : decode cX2_canHaveBeen 18 = .ok (.getfield 165, 3) := by decide +kernel
theorem dX2_canHaveBeen_21 : decode cX2_canHaveBeen 21 = .ok (.iload_n 2, 1) := by decide +kernel
theorem dX2_canHaveBeen_22 : decode cX2_canHaveBeen 22 = .ok (.invokevirtual 58, 3) := by decide +kernel
theorem dX2_canHaveBeen_25 : decode cX2_canHaveBeen 25 = .ok (.iload_n 1, 1) := by decide +kernel
theorem dX2_canHaveBeen_26 : decode cX2_canHaveBeen 26 = .ok (.invokevirtual 129, 3) := by decide +kernel
theorem dX2_canHaveBeen_29 : decode cX2_canHaveBeen 29 = .ok (.aload_n 0, 1) := by decide +kernel
theorem dX2_canHaveBeen_30 : decode cX2_canHaveBeen 30 = .ok (.getfield 34, 3) := by decide +kernel
theorem dX2_canHaveBeen_33 : decode cX2_canHaveBeen 33 = .ok (.getfield 168, 3) := by decide +kernel
theorem dX2_canHaveBeen_36 : decode cX2_canHaveBeen 36 = .ok (.iload_n 2, 1) := by decide +kernel
theorem dX2_canHaveBeen_37 : decode cX2_canHaveBeen 37 = .ok (.invokevirtual 58, 3) := by decide +kernel
theorem dX2_canHaveBeen_40 : decode cX2_canHaveBeen 40 = .ok (.if_icmp .eq 5, 3) := by decide +kernel
theorem dX2_canHaveBeen_43 : decode cX2_canHaveBeen 43 = .ok (.iconst 0, 1) := by decide +kernel
theorem dX2_canHaveBeen_44 : decode cX2_canHaveBeen 44 = .ok (.ireturn, 1) := by decide +kernel
theorem dX2_canHaveBeen_45 : decode cX2_canHaveBeen 45 = .ok (.iinc 2 1, 3) := by decide +kernel
theorem dX2_canHaveBeen_48 : decode cX2_canHaveBeen 48 = .ok (.goto (-46), 3) := by decide +kernel
theorem dX2_canHaveBeen_51 : decode cX2_canHaveBeen 51 = .ok (.iconst 1, 1) := by decide +kernel
theorem dX2_canHaveBeen_52 : decode cX2_canHaveBeen 52 = .ok (.ireturn, 1) := by decide +kernel
set_option maxRecDepth 20000 in
theorem ggX2_markPossibleDays_X2_canHaveBeen : GoodIn wsX2_markPossibleDays wsX2_canHaveBeen := goodIn_r _ [7, 1, 8, 9, 10, 11, 12, 13, 14, 15, 16, 6, 17, 18, 19, 20, 21, 22, 23, 24, 29, 30, 31, 32, 33, 34, 35, 36, 37, 38, 39, 40, 41, 42, 43, 44, 45, 46, 47, 48, 49, 50, 51] (by decide +kernel) (by decide +kernel)
set_option maxRecDepth 20000 in
theorem gX2_markPossibleDays_X2_canHaveBeen : GoodIn wsX2_markPossibleDays (wsV RX2 171 RX2 yX2_canHaveBeen wsX2_canHaveBeen) := goodIn_app (goodIn_of _ (by decide +kernel)) ggX2_markPossibleDays_X2_canHaveBeen
set_option maxRecDepth 20000 in
theorem ggX2_markPossibleDays_X1_put : GoodIn wsX2_markPossibleDays wsX1_put := goodIn_r _ [28, 13, 51] (by decide +kernel) (by decide +kernel)
set_option maxRecDepth 20000 in
theorem gX2_markPossibleDays_X1_put : GoodIn wsX2_markPossibleDays (wsV RX2 54 RX1 yX1_put wsX1_put) := goodIn_app (goodIn_of _ (by decide +kernel)) ggX2_markPossibleDays_X1_put
theorem dX2_markPossibleDays_0 : decode cX2_markPossibleDays 0 = .ok (.iconst 0, 1) := by decide +kernel
theorem dX2_markPossibleDays_1 : decode cX2_markPossibleDays 1 = .ok (.istore_n 1, 1) := by decide +kernel
theorem dX2_markPossibleDays_2 : decode cX2_markPossibleDays 2 = .ok (.iconst 0, 1) := by decide +kernel
theorem dX2_markPossibleDays_3 : decode cX2_markPossibleDays 3 = .ok (.istore_n 2, 1) := by decide +kernel
theorem dX2_markPossibleDays_4 : decode cX2_markPossibleDays 4 = .ok (.iload_n 2, 1) := by decide +kernel
theorem dX2_markPossibleDays_5 : decode cX2_markPossibleDays 5 = .ok (.aload_n 0, 1) := by decide +kernel
theorem dX2_markPossibleDays_6 : decode cX2_markPossibleDays 6 = .ok (.getfield 34, 3) := by decide +kernel
theorem dX2_markPossibleDays_9 : decode cX2_markPossibleDays 9 = .ok (.getfield 112, 3) := by decide +kernel
theorem dX2_markPossibleDays_12 : decode cX2_markPossibleDays 12 = .ok (.if_icmp .gt 39, 3) := by decide +kernel
theorem dX2_markPossibleDays_15 : decode cX2_markPossibleDays 15 = .ok (.aload_n 0, 1) := by decide +kernel
theorem dX2_markPossibleDays_16 : decode cX2_markPossibleDays 16 = .ok (.iload_n 2, 1) := by decide +kernel
theorem dX2_markPossibleDays_17 : decode cX2_markPossibleDays 17 = .ok (.invokevirtual 171, 3) := by decide +kernel
theorem dX2_markPossibleDays_20 : decode cX2_markPossibleDays 20 = .ok (.istore_n 3, 1) := by decide +kernel
theorem dX2_markPossibleDays_21 : decode cX2_markPossibleDays 21 = .ok (.aload_n 0, 1) := by decide +kernel
theorem dX2_markPossibleDays_22 : decode cX2_markPossibleDays 22 = .ok (.getfield 48, 3) := by decide +kernel
theorem dX2_markPossibleDays_25 : decode cX2_markPossibleDays 25 = .ok (.iload_n 2, 1) := by decide +kernel
theorem dX2_markPossibleDays_26 : decode cX2_markPossibleDays 26 = .ok (.iload_n 3, 1) := by decide +kernel
theorem dX2_markPossibleDays_27 : decode cX2_markPossibleDays 27 = .ok (.ifCond .eq 7, 3) := by decide +kernel
theorem dX2_markPossibleDays_30 : decode cX2_markPossibleDays 30 = .ok (.iconst 1, 1) := by decide +kernel
theorem dX2_markPossibleDays_31 : decode cX2_markPossibleDays 31 = .ok (.goto 4, 3) := by decide +kernel
theorem dX2_markPossibleDays_34 : decode cX2_markPossibleDays 34 = .ok (.iconst 0, 1) := by decide +kernel
theorem dX2_markPossibleDays_35 : decode cX2_markPossibleDays 35 = .ok (.invokevirtual 54, 3) := by decide +kernel
theorem dX2_markPossibleDays_38 : decode cX2_markPossibleDays 38 = .ok (.iload_n 3, 1) := by decide +kernel
theorem dX2_markPossibleDays_39 : decode cX2_markPossibleDays 39 = .ok (.ifCond .eq 6, 3) := by decide +kernel
theorem dX2_markPossibleDays_42 : decode cX2_markPossibleDays 42 = .ok (.iinc 1 1, 3) := by decide +kernel
theorem dX2_markPossibleDays_45 : decode cX2_markPossibleDays 45 = .ok (.iinc 2 1, 3) := by decide +kernel
theorem dX2_markPossibleDays_48 : decode cX2_markPossibleDays 48 = .ok (.goto (-44), 3) := by decide +kernel
theorem dX2_markPossibleDays_51 : decode cX2_markPossibleDays 51 = .ok (.iload_n 1, 1) := by decide +kernel
theorem dX2_markPossibleDays_52 : decode cX2_markPossibleDays 52 = .ok (.ireturn, 1) := by decide +kernel
set_option maxRecDepth 20000 in
theorem ggX2_mostLeftBy_X1_clear : GoodIn wsX2_mostLeftBy wsX1_clear := goodIn_r _ [12, 13, 61] (by decide +kernel) (by decide +kernel)
set_option maxRecDepth 20000 in
theorem gX2_mostLeftBy_X1_clear : GoodIn wsX2_mostLeftBy (wsV RX2 267 RX1 yX1_clear wsX1_clear) := goodIn_app (goodIn_of _ (by decide +kernel)) ggX2_mostLeftBy_X1_clear
set_option maxRecDepth 20000 in
theorem ggX2_mostLeftBy_X1_at : GoodIn wsX2_mostLeftBy wsX1_at := goodIn_r _ [17, 13, 61] (by decide +kernel) (by decide +kernel)
set_option maxRecDepth 20000 in
theorem gX2_mostLeftBy_X1_at : GoodIn wsX2_mostLeftBy (wsV RX2 58 RX1 yX1_at wsX1_at) := goodIn_app (goodIn_of _ (by decide +kernel)) ggX2_mostLeftBy_X1_at
set_option maxRecDepth 20000 in
theorem ggX2_mostLeftBy_X2_numberOn : GoodIn wsX2_mostLeftBy wsX2_numberOn := goodIn_r _ [22, 2, 23, 14, 15, 16, 11, 17, 13, 24, 25, 21, 26, 27, 28, 29, 39, 40, 41, 42, 43, 44, 45, 46, 47, 48, 49, 50, 51, 52, 53, 54, 55, 56, 57, 58, 59, 60, 61] (by decide +kernel) (by decide +kernel)
set_option maxRecDepth 20000 in
theorem gX2_mostLeftBy_X2_numberOn : GoodIn wsX2_mostLeftBy (wsV RX2 129 RX2 yX2_numberOn wsX2_numberOn) := goodIn_app (goodIn_of _ (by decide +kernel)) ggX2_mostLeftBy_X2_numberOn
set_option maxRecDepth 20000 in
theorem ggX2_mostLeftBy_X1_add : GoodIn wsX2_mostLeftBy wsX1_add := goodIn_r _ [33, 34, 15, 16, 11, 17, 13, 35, 36, 37, 38, 61] (by decide +kernel) (by decide +kernel)
set_option maxRecDepth 20000 in
theorem gX2_mostLeftBy_X1_add : GoodIn wsX2_mostLeftBy (wsV RX2 106 RX1 yX1_add wsX1_add) := goodIn_app (goodIn_of _ (by decide +kernel)) ggX2_mostLeftBy_X1_add
theorem dX2_mostLeftBy_0 : decode cX2_mostLeftBy 0 = .ok (.aload_n 0, 1) := by decide +kernel
theorem dX2_mostLeftBy_1 : decode cX2_mostLeftBy 1 = .ok (.getfield 51, 3) := by decide +kernel
theorem dX2_mostLeftBy_4 : decode cX2_mostLeftBy 4 = .ok (.invokevirtual 267, 3) := by decide +kernel
theorem dX2_mostLeftBy_7 : decode cX2_mostLeftBy 7 = .ok (.iconst 0, 1) := by decide +kernel
theorem dX2_mostLeftBy_8 : decode cX2_mostLeftBy 8 = .ok (.istore_n 2, 1) := by decide +kernel
theorem dX2_mostLeftBy_9 : decode cX2_mostLeftBy 9 = .ok (.iconst 0, 1) := by decide +kernel
theorem dX2_mostLeftBy_10 : decode cX2_mostLeftBy 10 = .ok (.istore_n 3, 1) := by decide +kernel
theorem dX2_mostLeftBy_11 : decode cX2_mostLeftBy 11 = .ok (.iload_n 3, 1) := by decide +kernel
theorem dX2_mostLeftBy_12 : decode cX2_mostLeftBy 12 = .ok (.aload_n 0, 1) := by decide +kernel
theorem dX2_mostLeftBy_13 : decode cX2_mostLeftBy 13 = .ok (.getfield 34, 3) := by decide +kernel
theorem dX2_mostLeftBy_16 : decode cX2_mostLeftBy 16 = .ok (.getfield 112, 3) := by decide +kernel
theorem dX2_mostLeftBy_19 : decode cX2_mostLeftBy 19 = .ok (.if_icmp .gt 53, 3) := by decide +kernel
theorem dX2_mostLeftBy_22 : decode cX2_mostLeftBy 22 = .ok (.aload_n 0, 1) := by decide +kernel
theorem dX2_mostLeftBy_23 : decode cX2_mostLeftBy 23 = .ok (.getfield 48, 3) := by decide +kernel
theorem dX2_mostLeftBy_26 : decode cX2_mostLeftBy 26 = .ok (.iload_n 3, 1) := by decide +kernel
theorem dX2_mostLeftBy_27 : decode cX2_mostLeftBy 27 = .ok (.invokevirtual 58, 3) := by decide +kernel
theorem dX2_mostLeftBy_30 : decode cX2_mostLeftBy 30 = .ok (.iconst 1, 1) := by decide +kernel
theorem dX2_mostLeftBy_31 : decode cX2_mostLeftBy 31 = .ok (.if_icmp .ne 35, 3) := by decide +kernel
theorem dX2_mostLeftBy_34 : decode cX2_mostLeftBy 34 = .ok (.aload_n 0, 1) := by decide +kernel
theorem dX2_mostLeftBy_35 : decode cX2_mostLeftBy 35 = .ok (.iload_n 1, 1) := by decide +kernel
theorem dX2_mostLeftBy_36 : decode cX2_mostLeftBy 36 = .ok (.iload_n 3, 1) := by decide +kernel
theorem dX2_mostLeftBy_37 : decode cX2_mostLeftBy 37 = .ok (.invokevirtual 129, 3) := by decide +kernel
theorem dX2_mostLeftBy_40 : decode cX2_mostLeftBy 40 = .ok (.istore 4, 2) := by decide +kernel
theorem dX2_mostLeftBy_42 : decode cX2_mostLeftBy 42 = .ok (.aload_n 0, 1) := by decide +kernel
theorem dX2_mostLeftBy_43 : decode cX2_mostLeftBy 43 = .ok (.getfield 51, 3) := by decide +kernel
theorem dX2_mostLeftBy_46 : decode cX2_mostLeftBy 46 = .ok (.iload 4, 2) := by decide +kernel
theorem dX2_mostLeftBy_48 : decode cX2_mostLeftBy 48 = .ok (.iconst 1, 1) := by decide +kernel
theorem dX2_mostLeftBy_49 : decode cX2_mostLeftBy 49 = .ok (.invokevirtual 106, 3) := by decide +kernel
theorem dX2_mostLeftBy_52 : decode cX2_mostLeftBy 52 = .ok (.iload_n 2, 1) := by decide +kernel
theorem dX2_mostLeftBy_53 : decode cX2_mostLeftBy 53 = .ok (.aload_n 0, 1) := by decide +kernel
theorem dX2_mostLeftBy_54 : decode cX2_mostLeftBy 54 = .ok (.getfield 51, 3) := by decide +kernel
theorem dX2_mostLeftBy_57 : decode cX2_mostLeftBy 57 = .ok (.iload 4, 2) := by decide +kernel
theorem dX2_mostLeftBy_59 : decode cX2_mostLeftBy 59 = .ok (.invokevirtual 58, 3) := by decide +kernel
theorem dX2_mostLeftBy_62 : decode cX2_mostLeftBy 62 = .ok (.invokestatic 270, 3) := by decide +kernel
theorem dX2_mostLeftBy_65 : decode cX2_mostLeftBy 65 = .ok (.istore_n 2, 1) := by decide +kernel
theorem dX2_mostLeftBy_66 : decode cX2_mostLeftBy 66 = .ok (.iinc 3 1, 3) := by decide +kernel
theorem dX2_mostLeftBy_69 : decode cX2_mostLeftBy 69 = .ok (.goto (-58), 3) := by decide +kernel
theorem dX2_mostLeftBy_72 : decode cX2_mostLeftBy 72 = .ok (.iload_n 2, 1) := by decide +kernel
theorem dX2_mostLeftBy_73 : decode cX2_mostLeftBy 73 = .ok (.ireturn, 1) := by decide +kernel
theorem dX2_nextSeed_0 : decode cX2_nextSeed 0 = .ok (.ldc2_w 273, 3) := by decide +kernel
theorem dX2_nextSeed_3 : decode cX2_nextSeed 3 = .ok (.iload_n 0, 1) := by decide +kernel
theorem dX2_nextSeed_4 : decode cX2_nextSeed 4 = .ok (.i2l, 1) := by decide +kernel
theorem dX2_nextSeed_5 : decode cX2_nextSeed 5 = .ok (.lmul, 1) := by decide +kernel
theorem dX2_nextSeed_6 : decode cX2_nextSeed 6 = .ok (.ldc2_w 275, 3) := by decide +kernel
theorem dX2_nextSeed_9 : decode cX2_nextSeed 9 = .ok (.ladd, 1) := by decide +kernel
theorem dX2_nextSeed_10 : decode cX2_nextSeed 10 = .ok (.ldc2_w 277, 3) := by decide +kernel
theorem dX2_nextSeed_13 : decode cX2_nextSeed 13 = .ok (.lrem, 1) := by decide +kernel
theorem dX2_nextSeed_14 : decode cX2_nextSeed 14 = .ok (.l2i, 1) := by decide +kernel
theorem dX2_nextSeed_15 : decode cX2_nextSeed 15 = .ok (.ireturn, 1) := by decide +kernel
theorem dX2_drawnHouse_0 : decode cX2_drawnHouse 0 = .ok (.aload_n 0, 1) := by decide +kernel
theorem dX2_drawnHouse_1 : decode cX2_drawnHouse 1 = .ok (.getfield 22, 3) := by decide +kernel
theorem dX2_drawnHouse_4 : decode cX2_drawnHouse 4 = .ok (.iconst 1, 1) := by decide +kernel
theorem dX2_drawnHouse_5 : decode cX2_drawnHouse 5 = .ok (.if_icmp .ge 7, 3) := by decide +kernel
theorem dX2_drawnHouse_8 : decode cX2_drawnHouse 8 = .ok (.iconst 0, 1) := by decide +kernel
theorem dX2_drawnHouse_9 : decode cX2_drawnHouse 9 = .ok (.goto 13, 3) := by decide +kernel
theorem dX2_drawnHouse_12 : decode cX2_drawnHouse 12 = .ok (.iload_n 1, 1) := by decide +kernel
theorem dX2_drawnHouse_13 : decode cX2_drawnHouse 13 = .ok (.ldc_w 279, 3) := by decide +kernel
theorem dX2_drawnHouse_16 : decode cX2_drawnHouse 16 = .ok (.idiv, 1) := by decide +kernel
theorem dX2_drawnHouse_17 : decode cX2_drawnHouse 17 = .ok (.aload_n 0, 1) := by decide +kernel
theorem dX2_drawnHouse_18 : decode cX2_drawnHouse 18 = .ok (.getfield 22, 3) := by decide +kernel
theorem dX2_drawnHouse_21 : decode cX2_drawnHouse 21 = .ok (.irem, 1) := by decide +kernel
theorem dX2_drawnHouse_22 : decode cX2_drawnHouse 22 = .ok (.ireturn, 1) := by decide +kernel
theorem dX3_init_0 : decode cX3_init 0 = .ok (.aload_n 0, 1) := by decide +kernel
theorem dX3_init_1 : decode cX3_init 1 = .ok (.invokespecial 1, 3) := by decide +kernel
theorem dX3_init_4 : decode cX3_init 4 = .ok (.aload_n 0, 1) := by decide +kernel
theorem dX3_init_5 : decode cX3_init 5 = .ok (.bipush 6, 2) := by decide +kernel
theorem dX3_init_7 : decode cX3_init 7 = .ok (.newarray .int, 2) := by decide +kernel
theorem dX3_init_9 : decode cX3_init 9 = .ok (.putfield 7, 3) := by decide +kernel
theorem dX3_init_12 : decode cX3_init 12 = .ok (.aload_n 0, 1) := by decide +kernel
theorem dX3_init_13 : decode cX3_init 13 = .ok (.bipush 6, 2) := by decide +kernel
theorem dX3_init_15 : decode cX3_init 15 = .ok (.newarray .int, 2) := by decide +kernel
theorem dX3_init_17 : decode cX3_init 17 = .ok (.putfield 13, 3) := by decide +kernel
theorem dX3_init_20 : decode cX3_init 20 = .ok (.aload_n 0, 1) := by decide +kernel
theorem dX3_init_21 : decode cX3_init 21 = .ok (.bipush 6, 2) := by decide +kernel
theorem dX3_init_23 : decode cX3_init 23 = .ok (.newarray .int, 2) := by decide +kernel
theorem dX3_init_25 : decode cX3_init 25 = .ok (.putfield 16, 3) := by decide +kernel
theorem dX3_init_28 : decode cX3_init 28 = .ok (.aload_n 0, 1) := by decide +kernel
theorem dX3_init_29 : decode cX3_init 29 = .ok (.sipush 186, 3) := by decide +kernel
theorem dX3_init_32 : decode cX3_init 32 = .ok (.newarray .int, 2) := by decide +kernel
theorem dX3_init_34 : decode cX3_init 34 = .ok (.putfield 19, 3) := by decide +kernel
theorem dX3_init_37 : decode cX3_init 37 = .ok (.aload_n 0, 1) := by decide +kernel
theorem dX3_init_38 : decode cX3_init 38 = .ok (.bipush 6, 2) := by decide +kernel
theorem dX3_init_40 : decode cX3_init 40 = .ok (.newarray .int, 2) := by decide +kernel
theorem dX3_init_42 : decode cX3_init 42 = .ok (.putfield 22, 3) := by decide +kernel
theorem dX3_init_45 : decode cX3_init 45 = .ok (.aload_n 0, 1) := by decide +kernel
theorem dX3_init_46 : decode cX3_init 46 = .ok (.bipush 6, 2) := by decide +kernel
theorem dX3_init_48 : decode cX3_init 48 = .ok (.newarray .int, 2) := by decide +kernel
theorem dX3_init_50 : decode cX3_init 50 = .ok (.putfield 25, 3) := by decide +kernel
theorem dX3_init_53 : decode cX3_init 53 = .ok (.aload_n 0, 1) := by decide +kernel
theorem dX3_init_54 : decode cX3_init 54 = .ok (.bipush 6, 2) := by decide +kernel
theorem dX3_init_56 : decode cX3_init 56 = .ok (.newarray .int, 2) := by decide +kernel
theorem dX3_init_58 : decode cX3_init 58 = .ok (.putfield 28, 3) := by decide +kernel
theorem dX3_init_61 : decode cX3_init 61 = .ok (.aload_n 0, 1) := by decide +kernel
theorem dX3_init_62 : decode cX3_init 62 = .ok (.bipush 6, 2) := by decide +kernel
theorem dX3_init_64 : decode cX3_init 64 = .ok (.newarray .int, 2) := by decide +kernel
theorem dX3_init_66 : decode cX3_init 66 = .ok (.putfield 31, 3) := by decide +kernel
theorem dX3_init_69 : decode cX3_init 69 = .ok (.aload_n 0, 1) := by decide +kernel
theorem dX3_init_70 : decode cX3_init 70 = .ok (.bipush 19, 2) := by decide +kernel
theorem dX3_init_72 : decode cX3_init 72 = .ok (.newarray .byte, 2) := by decide +kernel
theorem dX3_init_74 : decode cX3_init 74 = .ok (.putfield 34, 3) := by decide +kernel
theorem dX3_init_77 : decode cX3_init 77 = .ok (.aload_n 0, 1) := by decide +kernel
theorem dX3_init_78 : decode cX3_init 78 = .ok (.bipush 6, 2) := by decide +kernel
theorem dX3_init_80 : decode cX3_init 80 = .ok (.newarray .int, 2) := by decide +kernel
theorem dX3_init_82 : decode cX3_init 82 = .ok (.putfield 38, 3) := by decide +kernel
theorem dX3_init_85 : decode cX3_init 85 = .ok (.aload_n 0, 1) := by decide +kernel
theorem dX3_init_86 : decode cX3_init 86 = .ok (.bipush 6, 2) := by decide +kernel
theorem dX3_init_88 : decode cX3_init 88 = .ok (.newarray .int, 2) := by decide +kernel
theorem dX3_init_90 : decode cX3_init 90 = .ok (.putfield 41, 3) := by decide +kernel
theorem dX3_init_93 : decode cX3_init 93 = .ok (.aload_n 0, 1) := by decide +kernel
theorem dX3_init_94 : decode cX3_init 94 = .ok (.bipush 6, 2) := by decide +kernel
theorem dX3_init_96 : decode cX3_init 96 = .ok (.newarray .int, 2) := by decide +kernel
theorem dX3_init_98 : decode cX3_init 98 = .ok (.putfield 44, 3) := by decide +kernel
theorem dX3_init_101 : decode cX3_init 101 = .ok (.aload_n 0, 1) := by decide +kernel
theorem dX3_init_102 : decode cX3_init 102 = .ok (.sipush 186, 3) := by decide +kernel
theorem dX3_init_105 : decode cX3_init 105 = .ok (.newarray .int, 2) := by decide +kernel
theorem dX3_init_107 : decode cX3_init 107 = .ok (.putfield 47, 3) := by decide +kernel
theorem dX3_init_110 : decode cX3_init 110 = .ok (.aload_n 0, 1) := by decide +kernel
theorem dX3_init_111 : decode cX3_init 111 = .ok (.bipush 6, 2) := by decide +kernel
theorem dX3_init_113 : decode cX3_init 113 = .ok (.newarray .int, 2) := by decide +kernel
theorem dX3_init_115 : decode cX3_init 115 = .ok (.putfield 50, 3) := by decide +kernel
theorem dX3_init_118 : decode cX3_init 118 = .ok (.aload_n 0, 1) := by decide +kernel
theorem dX3_init_119 : decode cX3_init 119 = .ok (.bipush 6, 2) := by decide +kernel
theorem dX3_init_121 : decode cX3_init 121 = .ok (.newarray .int, 2) := by decide +kernel
theorem dX3_init_123 : decode cX3_init 123 = .ok (.putfield 53, 3) := by decide +kernel
theorem dX3_init_126 : decode cX3_init 126 = .ok (.aload_n 0, 1) := by decide +kernel
theorem dX3_init_127 : decode cX3_init 127 = .ok (.bipush 6, 2) := by decide +kernel
theorem dX3_init_129 : decode cX3_init 129 = .ok (.newarray .int, 2) := by decide +kernel
theorem dX3_init_131 : decode cX3_init 131 = .ok (.putfield 56, 3) := by decide +kernel
theorem dX3_init_134 : decode cX3_init 134 = .ok (.aload_n 0, 1) := by decide +kernel
theorem dX3_init_135 : decode cX3_init 135 = .ok (.bipush 6, 2) := by decide +kernel
theorem dX3_init_137 : decode cX3_init 137 = .ok (.newarray .int, 2) := by decide +kernel
theorem dX3_init_139 : decode cX3_init 139 = .ok (.putfield 59, 3) := by decide +kernel
theorem dX3_init_142 : decode cX3_init 142 = .ok (.return_, 1) := by decide +kernel
theorem dX3_within_0 : decode cX3_within 0 = .ok (.iload_n 0, 1) := by decide +kernel
theorem dX3_within_1 : decode cX3_within 1 = .ok (.iload_n 1, 1) := by decide +kernel
theorem dX3_within_2 : decode cX3_within 2 = .ok (.if_icmp .lt 12, 3) := by decide +kernel
theorem dX3_within_5 : decode cX3_within 5 = .ok (.iload_n 0, 1) := by decide +kernel
theorem dX3_within_6 : decode cX3_within 6 = .ok (.iload_n 2, 1) := by decide +kernel
theorem dX3_within_7 : decode cX3_within 7 = .ok (.if_icmp .gt 7, 3) := by decide +kernel
theorem dX3_within_10 : decode cX3_within 10 = .ok (.iconst 1, 1) := by decide +kernel
theorem dX3_within_11 : decode cX3_within 11 = .ok (.goto 4, 3) := by decide +kernel
theorem dX3_within_14 : decode cX3_within 14 = .ok (.iconst 0, 1) := by decide +kernel
theorem dX3_within_15 : decode cX3_within 15 = .ok (.ireturn, 1) := by decide +kernel
theorem dX3_isIn_0 : decode cX3_isIn 0 = .ok (.iload_n 0, 1) := by decide +kernel
theorem dX3_isIn_1 : decode cX3_isIn 1 = .ok (.iload_n 1, 1) := by decide +kernel
theorem dX3_isIn_2 : decode cX3_isIn 2 = .ok (.ishr, 1) := by decide +kernel
theorem dX3_isIn_3 : decode cX3_isIn 3 = .ok (.iconst 1, 1) := by decide +kernel
theorem dX3_isIn_4 : decode cX3_isIn 4 = .ok (.iand, 1) := by decide +kernel
theorem dX3_isIn_5 : decode cX3_isIn 5 = .ok (.iconst 1, 1) := by decide +kernel
theorem dX3_isIn_6 : decode cX3_isIn 6 = .ok (.if_icmp .ne 7, 3) := by decide +kernel
theorem dX3_isIn_9 : decode cX3_isIn 9 = .ok (.iconst 1, 1) := by decide +kernel
theorem dX3_isIn_10 : decode cX3_isIn 10 = .ok (.goto 4, 3) := by decide +kernel
theorem dX3_isIn_13 : decode cX3_isIn 13 = .ok (.iconst 0, 1) := by decide +kernel
theorem dX3_isIn_14 : decode cX3_isIn 14 = .ok (.ireturn, 1) := by decide +kernel
theorem dX3_size_0 : decode cX3_size 0 = .ok (.iconst 0, 1) := by decide +kernel
theorem dX3_size_1 : decode cX3_size 1 = .ok (.istore_n 1, 1) := by decide +kernel
theorem dX3_size_2 : decode cX3_size 2 = .ok (.iconst 0, 1) := by decide +kernel
theorem dX3_size_3 : decode cX3_size 3 = .ok (.istore_n 2, 1) := by decide +kernel
theorem dX3_size_4 : decode cX3_size 4 = .ok (.iload_n 2, 1) := by decide +kernel
theorem dX3_size_5 : decode cX3_size 5 = .ok (.bipush 6, 2) := by decide +kernel
theorem dX3_size_7 : decode cX3_size 7 = .ok (.if_icmp .ge 17, 3) := by decide +kernel
theorem dX3_size_10 : decode cX3_size 10 = .ok (.iload_n 1, 1) := by decide +kernel
theorem dX3_size_11 : decode cX3_size 11 = .ok (.iload_n 0, 1) := by decide +kernel
theorem dX3_size_12 : decode cX3_size 12 = .ok (.iload_n 2, 1) := by decide +kernel
theorem dX3_size_13 : decode cX3_size 13 = .ok (.ishr, 1) := by decide +kernel
theorem dX3_size_14 : decode cX3_size 14 = .ok (.iconst 1, 1) := by decide +kernel
theorem dX3_size_15 : decode cX3_size 15 = .ok (.iand, 1) := by decide +kernel
theorem dX3_size_16 : decode cX3_size 16 = .ok (.iadd, 1) := by decide +kernel
theorem dX3_size_17 : decode cX3_size 17 = .ok (.istore_n 1, 1) := by decide +kernel
theorem dX3_size_18 : decode cX3_size 18 = .ok (.iinc 2 1, 3) := by decide +kernel
theorem dX3_size_21 : decode cX3_size 21 = .ok (.goto (-17), 3) := by decide +kernel
theorem dX3_size_24 : decode cX3_size 24 = .ok (.iload_n 1, 1) := by decide +kernel
theorem dX3_size_25 : decode cX3_size 25 = .ok (.ireturn, 1) := by decide +kernel
set_option maxRecDepth 20000 in
theorem ggX3_letter_X3_within : GoodIn wsX3_letter wsX3_within := goodIn_r _ [6] (by decide +kernel) (by decide +kernel)
set_option maxRecDepth 20000 in
theorem gX3_letter_X3_within : GoodIn wsX3_letter (va_wsS RX3 62 yX3_within wsX3_within) := goodIn_app (goodIn_of _ (by decide +kernel)) ggX3_letter_X3_within
theorem dX3_letter_0 : decode cX3_letter 0 = .ok (.iload_n 1, 1) := by decide +kernel
theorem dX3_letter_1 : decode cX3_letter 1 = .ok (.bipush 32, 2) := by decide +kernel
theorem dX3_letter_3 : decode cX3_letter 3 = .ok (.bipush 126, 2) := by decide +kernel
theorem dX3_letter_5 : decode cX3_letter 5 = .ok (.invokestatic 62, 3) := by decide +kernel
theorem dX3_letter_8 : decode cX3_letter 8 = .ok (.ifCond .ne 6, 3) := by decide +kernel
theorem dX3_letter_11 : decode cX3_letter 11 = .ok (.bipush (-102), 2) := by decide +kernel
theorem dX3_letter_13 : decode cX3_letter 13 = .ok (.ireturn, 1) := by decide +kernel
theorem dX3_letter_14 : decode cX3_letter 14 = .ok (.aload_n 0, 1) := by decide +kernel
theorem dX3_letter_15 : decode cX3_letter 15 = .ok (.getfield 66, 3) := by decide +kernel
theorem dX3_letter_18 : decode cX3_letter 18 = .ok (.bipush 19, 2) := by decide +kernel
theorem dX3_letter_20 : decode cX3_letter 20 = .ok (.if_icmp .ne 6, 3) := by decide +kernel
theorem dX3_letter_23 : decode cX3_letter 23 = .ok (.bipush (-104), 2) := by decide +kernel
theorem dX3_letter_25 : decode cX3_letter 25 = .ok (.ireturn, 1) := by decide +kernel
theorem dX3_letter_26 : decode cX3_letter 26 = .ok (.aload_n 0, 1) := by decide +kernel
theorem dX3_letter_27 : decode cX3_letter 27 = .ok (.getfield 34, 3) := by decide +kernel
theorem dX3_letter_30 : decode cX3_letter 30 = .ok (.aload_n 0, 1) := by decide +kernel
theorem dX3_letter_31 : decode cX3_letter 31 = .ok (.getfield 66, 3) := by decide +kernel
theorem dX3_letter_34 : decode cX3_letter 34 = .ok (.iload_n 1, 1) := by decide +kernel
theorem dX3_letter_35 : decode cX3_letter 35 = .ok (.i2b, 1) := by decide +kernel
theorem dX3_letter_36 : decode cX3_letter 36 = .ok (.bastore, 1) := by decide +kernel
theorem dX3_letter_37 : decode cX3_letter 37 = .ok (.aload_n 0, 1) := by decide +kernel
theorem dX3_letter_38 : decode cX3_letter 38 = .ok (.dup, 1) := by decide +kernel
theorem dX3_letter_39 : decode cX3_letter 39 = .ok (.getfield 66, 3) := by decide +kernel
theorem dX3_letter_42 : decode cX3_letter 42 = .ok (.iconst 1, 1) := by decide +kernel
theorem dX3_letter_43 : decode cX3_letter 43 = .ok (.iadd, 1) := by decide +kernel
theorem dX3_letter_44 : decode cX3_letter 44 = .ok (.putfield 66, 3) := by decide +kernel
theorem dX3_letter_47 : decode cX3_letter 47 = .ok (.aload_n 0, 1) := by decide +kernel
theorem dX3_letter_48 : decode cX3_letter 48 = .ok (.getfield 66, 3) := by decide +kernel
theorem dX3_letter_51 : decode cX3_letter 51 = .ok (.ireturn, 1) := by decide +kernel
theorem dX3_blank_0 : decode cX3_blank 0 = .ok (.aload_n 0, 1) := by decide +kernel
theorem dX3_blank_1 : decode cX3_blank 1 = .ok (.getfield 66, 3) := by decide +kernel
theorem dX3_blank_4 : decode cX3_blank 4 = .ok (.istore_n 1, 1) := by decide +kernel
theorem dX3_blank_5 : decode cX3_blank 5 = .ok (.aload_n 0, 1) := by decide +kernel
theorem dX3_blank_6 : decode cX3_blank 6 = .ok (.iconst 0, 1) := by decide +kernel
theorem dX3_blank_7 : decode cX3_blank 7 = .ok (.putfield 66, 3) := by decide +kernel
theorem dX3_blank_10 : decode cX3_blank 10 = .ok (.iload_n 1, 1) := by decide +kernel
theorem dX3_blank_11 : decode cX3_blank 11 = .ok (.ireturn, 1) := by decide +kernel
theorem dX3_kindBy_0 : decode cX3_kindBy 0 = .ok (.iload_n 0, 1) := by decide +kernel
theorem dX3_kindBy_1 : decode cX3_kindBy 1 = .ok (.lookupswitch 61 #[(98, 59), (99, 57), (104, 51), (109, 55), (116, 53)], 51) := by decide +kernel
theorem dX3_kindBy_52 : decode cX3_kindBy 52 = .ok (.iconst 0, 1) := by decide +kernel
theorem dX3_kindBy_53 : decode cX3_kindBy 53 = .ok (.ireturn, 1) := by decide +kernel
theorem dX3_kindBy_54 : decode cX3_kindBy 54 = .ok (.iconst 1, 1) := by decide +kernel
theorem dX3_kindBy_55 : decode cX3_kindBy 55 = .ok (.ireturn, 1) := by decide +kernel
theorem dX3_kindBy_56 : decode cX3_kindBy 56 = .ok (.iconst 2, 1) := by decide +kernel
theorem dX3_kindBy_57 : decode cX3_kindBy 57 = .ok (.ireturn, 1) := by decide +kernel
theorem dX3_kindBy_58 : decode cX3_kindBy 58 = .ok (.iconst 3, 1) := by decide +kernel
theorem dX3_kindBy_59 : decode cX3_kindBy 59 = .ok (.ireturn, 1) := by decide +kernel
theorem dX3_kindBy_60 : decode cX3_kindBy 60 = .ok (.iconst 4, 1) := by decide +kernel
theorem dX3_kindBy_61 : decode cX3_kindBy 61 = .ok (.ireturn, 1) := by decide +kernel
theorem dX3_kindBy_62 : decode cX3_kindBy 62 = .ok (.iconst (-1), 1) := by decide +kernel
theorem dX3_kindBy_63 : decode cX3_kindBy 63 = .ok (.ireturn, 1) := by decide +kernel
set_option maxRecDepth 20000 in
theorem ggX3_isGood_X3_kindBy : GoodIn wsX3_isGood wsX3_kindBy := goodIn_r _ [5] (by decide +kernel) (by decide +kernel)
set_option maxRecDepth 20000 in
theorem gX3_isGood_X3_kindBy : GoodIn wsX3_isGood (va_wsS RX3 70 yX3_kindBy wsX3_kindBy) := goodIn_app (goodIn_of _ (by decide +kernel)) ggX3_isGood_X3_kindBy
set_option maxRecDepth 20000 in
theorem ggX3_isGood_X3_within : GoodIn wsX3_isGood wsX3_within := goodIn_r _ [8] (by decide +kernel) (by decide +kernel)
set_option maxRecDepth 20000 in
theorem gX3_isGood_X3_within : GoodIn wsX3_isGood (va_wsS RX3 62 yX3_within wsX3_within) := goodIn_app (goodIn_of _ (by decide +kernel)) ggX3_isGood_X3_within
theorem dX3_isGood_0 : decode cX3_isGood 0 = .ok (.aload_n 0, 1) := by decide +kernel
theorem dX3_isGood_1 : decode cX3_isGood 1 = .ok (.getfield 34, 3) := by decide +kernel
theorem dX3_isGood_4 : decode cX3_isGood 4 = .ok (.iload_n 1, 1) := by decide +kernel
theorem dX3_isGood_5 : decode cX3_isGood 5 = .ok (.baload, 1) := by decide +kernel
theorem dX3_isGood_6 : decode cX3_isGood 6 = .ok (.istore_n 2, 1) := by decide +kernel
theorem dX3_isGood_7 : decode cX3_isGood 7 = .ok (.iload_n 1, 1) := by decide +kernel
theorem dX3_isGood_8 : decode cX3_isGood 8 = .ok (.iconst 3, 1) := by decide +kernel
theorem dX3_isGood_9 : decode cX3_isGood 9 = .ok (.irem, 1) := by decide +kernel
theorem dX3_isGood_10 : decode cX3_isGood 10 = .ok (.lookupswitch 51 #[(0, 26), (1, 40)], 26) := by decide +kernel
theorem dX3_isGood_36 : decode cX3_isGood 36 = .ok (.iload_n 2, 1) := by decide +kernel
theorem dX3_isGood_37 : decode cX3_isGood 37 = .ok (.invokestatic 70, 3) := by decide +kernel
theorem dX3_isGood_40 : decode cX3_isGood 40 = .ok (.iconst (-1), 1) := by decide +kernel
theorem dX3_isGood_41 : decode cX3_isGood 41 = .ok (.if_icmp .eq 7, 3) := by decide +kernel
theorem dX3_isGood_44 : decode cX3_isGood 44 = .ok (.iconst 1, 1) := by decide +kernel
theorem dX3_isGood_45 : decode cX3_isGood 45 = .ok (.goto 4, 3) := by decide +kernel
theorem dX3_isGood_48 : decode cX3_isGood 48 = .ok (.iconst 0, 1) := by decide +kernel
theorem dX3_isGood_49 : decode cX3_isGood 49 = .ok (.ireturn, 1) := by decide +kernel
theorem dX3_isGood_50 : decode cX3_isGood 50 = .ok (.iload_n 2, 1) := by decide +kernel
theorem dX3_isGood_51 : decode cX3_isGood 51 = .ok (.bipush 48, 2) := by decide +kernel
theorem dX3_isGood_53 : decode cX3_isGood 53 = .ok (.isub, 1) := by decide +kernel
theorem dX3_isGood_54 : decode cX3_isGood 54 = .ok (.iconst 0, 1) := by decide +kernel
theorem dX3_isGood_55 : decode cX3_isGood 55 = .ok (.bipush 9, 2) := by decide +kernel
theorem dX3_isGood_57 : decode cX3_isGood 57 = .ok (.invokestatic 62, 3) := by decide +kernel
theorem dX3_isGood_60 : decode cX3_isGood 60 = .ok (.ireturn, 1) := by decide +kernel
theorem dX3_isGood_61 : decode cX3_isGood 61 = .ok (.iload_n 2, 1) := by decide +kernel
theorem dX3_isGood_62 : decode cX3_isGood 62 = .ok (.bipush 44, 2) := by decide +kernel
theorem dX3_isGood_64 : decode cX3_isGood 64 = .ok (.if_icmp .ne 13, 3) := by decide +kernel
theorem dX3_isGood_67 : decode cX3_isGood 67 = .ok (.iload_n 1, 1) := by decide +kernel
theorem dX3_isGood_68 : decode cX3_isGood 68 = .ok (.bipush 17, 2) := by decide +kernel
theorem dX3_isGood_70 : decode cX3_isGood 70 = .ok (.if_icmp .ge 7, 3) := by decide +kernel
theorem dX3_isGood_73 : decode cX3_isGood 73 = .ok (.iconst 1, 1) := by decide +kernel
theorem dX3_isGood_74 : decode cX3_isGood 74 = .ok (.goto 4, 3) := by decide +kernel
theorem dX3_isGood_77 : decode cX3_isGood 77 = .ok (.iconst 0, 1) := by decide +kernel
theorem dX3_isGood_78 : decode cX3_isGood 78 = .ok (.ireturn, 1) := by decide +kernel
set_option maxRecDepth 20000 in
theorem ggX3_faultNow_X3_isGood : GoodIn wsX3_faultNow wsX3_isGood := goodIn_r _ [6, 7, 8, 9, 5, 10, 11, 12, 13, 14, 15, 16, 17, 18, 19, 20, 21, 22, 23, 24, 25, 26, 27, 28, 29, 30, 31, 32, 33, 34, 35, 36, 37, 38, 39, 40, 41, 42, 43, 44, 45] (by decide +kernel) (by decide +kernel)
set_option maxRecDepth 20000 in
theorem gX3_faultNow_X3_isGood : GoodIn wsX3_faultNow (wsV RX3 74 RX3 yX3_isGood wsX3_isGood) := goodIn_app (goodIn_of _ (by decide +kernel)) ggX3_faultNow_X3_isGood
theorem dX3_faultNow_0 : decode cX3_faultNow 0 = .ok (.iconst 0, 1) := by decide +kernel
theorem dX3_faultNow_1 : decode cX3_faultNow 1 = .ok (.istore_n 1, 1) := by decide +kernel
theorem dX3_faultNow_2 : decode cX3_faultNow 2 = .ok (.iload_n 1, 1) := by decide +kernel
theorem dX3_faultNow_3 : decode cX3_faultNow 3 = .ok (.aload_n 0, 1) := by decide +kernel
theorem dX3_faultNow_4 : decode cX3_faultNow 4 = .ok (.getfield 66, 3) := by decide +kernel
theorem dX3_faultNow_7 : decode cX3_faultNow 7 = .ok (.if_icmp .ge 17, 3) := by decide +kernel
theorem dX3_faultNow_10 : decode cX3_faultNow 10 = .ok (.aload_n 0, 1) := by decide +kernel
theorem dX3_faultNow_11 : decode cX3_faultNow 11 = .ok (.iload_n 1, 1) := by decide +kernel
theorem dX3_faultNow_12 : decode cX3_faultNow 12 = .ok (.invokevirtual 74, 3) := by decide +kernel
theorem dX3_faultNow_15 : decode cX3_faultNow 15 = .ok (.ifCond .eq 9, 3) := by decide +kernel
theorem dX3_faultNow_18 : decode cX3_faultNow 18 = .ok (.iinc 1 1, 3) := by decide +kernel
theorem dX3_faultNow_21 : decode cX3_faultNow 21 = .ok (.goto (-19), 3) := by decide +kernel
theorem dX3_faultNow_24 : decode cX3_faultNow 24 = .ok (.iload_n 1, 1) := by decide +kernel
theorem dX3_faultNow_25 : decode cX3_faultNow 25 = .ok (.ireturn, 1) := by decide +kernel
set_option maxRecDepth 20000 in
theorem ggX3_fault_X3_faultNow : GoodIn wsX3_fault wsX3_faultNow := goodIn_r _ [5, 6, 7, 8, 9, 4, 10, 11, 12, 13, 14, 15, 16, 17, 18, 19, 20, 21, 22, 23, 24, 25, 26, 27, 28, 29, 30, 31, 32, 33, 34, 35, 36, 37, 38, 39, 40, 41, 42, 43, 44, 45, 46, 47, 48, 49] (by decide +kernel) (by decide +kernel)
set_option maxRecDepth 20000 in
theorem gX3_fault_X3_faultNow : GoodIn wsX3_fault (wsV RX3 78 RX3 yX3_faultNow wsX3_faultNow) := goodIn_app (goodIn_of _ (by decide +kernel)) ggX3_fault_X3_faultNow
theorem dX3_fault_0 : decode cX3_fault 0 = .ok (.aload_n 0, 1) := by decide +kernel
theorem dX3_fault_1 : decode cX3_fault 1 = .ok (.invokevirtual 78, 3) := by decide +kernel
theorem dX3_fault_4 : decode cX3_fault 4 = .ok (.ireturn, 1) := by decide +kernel
set_option maxRecDepth 20000 in
theorem ggX3_street_X3_faultNow : GoodIn wsX3_street wsX3_faultNow := goodIn_r _ [16, 1, 17, 18, 19, 15, 20, 4, 21, 22, 23, 24, 25, 26, 27, 28, 29, 30, 31, 32, 33, 34, 35, 36, 37, 38, 39, 40, 41, 42, 43, 44, 45, 46, 47, 48, 49, 50, 51, 52, 53, 54, 55, 56, 57, 58] (by decide +kernel) (by decide +kernel)
set_option maxRecDepth 20000 in
theorem gX3_street_X3_faultNow : GoodIn wsX3_street (wsV RX3 78 RX3 yX3_faultNow wsX3_faultNow) := goodIn_app (goodIn_of _ (by decide +kernel)) ggX3_street_X3_faultNow
set_option maxRecDepth 20000 in
theorem ggX3_street_X3_kindBy : GoodIn wsX3_street wsX3_kindBy := goodIn_r _ [23] (by decide +kernel) (by decide +kernel)
set_option maxRecDepth 20000 in
theorem gX3_street_X3_kindBy : GoodIn wsX3_street (va_wsS RX3 70 yX3_kindBy wsX3_kindBy) := goodIn_app (goodIn_of _ (by decide +kernel)) ggX3_street_X3_kindBy
theorem dX3_street_0 : decode cX3_street 0 = .ok (.aload_n 0, 1) := by decide +kernel
theorem dX3_street_1 : decode cX3_street 1 = .ok (.getfield 66, 3) := by decide +kernel
theorem dX3_street_4 : decode cX3_street 4 = .ok (.iconst 5, 1) := by decide +kernel
theorem dX3_street_5 : decode cX3_street 5 = .ok (.if_icmp .lt 24, 3) := by decide +kernel
theorem dX3_street_8 : decode cX3_street 8 = .ok (.aload_n 0, 1) := by decide +kernel
theorem dX3_street_9 : decode cX3_street 9 = .ok (.getfield 66, 3) := by decide +kernel
theorem dX3_street_12 : decode cX3_street 12 = .ok (.iconst 3, 1) := by decide +kernel
theorem dX3_street_13 : decode cX3_street 13 = .ok (.irem, 1) := by decide +kernel
theorem dX3_street_14 : decode cX3_street 14 = .ok (.iconst 2, 1) := by decide +kernel
theorem dX3_street_15 : decode cX3_street 15 = .ok (.if_icmp .ne 14, 3) := by decide +kernel
theorem dX3_street_18 : decode cX3_street 18 = .ok (.aload_n 0, 1) := by decide +kernel
theorem dX3_street_19 : decode cX3_street 19 = .ok (.invokevirtual 78, 3) := by decide +kernel
theorem dX3_street_22 : decode cX3_street 22 = .ok (.aload_n 0, 1) := by decide +kernel
theorem dX3_street_23 : decode cX3_street 23 = .ok (.getfield 66, 3) := by decide +kernel
theorem dX3_street_26 : decode cX3_street 26 = .ok (.if_icmp .eq 6, 3) := by decide +kernel
theorem dX3_street_29 : decode cX3_street 29 = .ok (.bipush (-103), 2) := by decide +kernel
theorem dX3_street_31 : decode cX3_street 31 = .ok (.ireturn, 1) := by decide +kernel
theorem dX3_street_32 : decode cX3_street 32 = .ok (.aload_n 0, 1) := by decide +kernel
theorem dX3_street_33 : decode cX3_street 33 = .ok (.aload_n 0, 1) := by decide +kernel
theorem dX3_street_34 : decode cX3_street 34 = .ok (.getfield 66, 3) := by decide +kernel
theorem dX3_street_37 : decode cX3_street 37 = .ok (.iconst 1, 1) := by decide +kernel
theorem dX3_street_38 : decode cX3_street 38 = .ok (.iadd, 1) := by decide +kernel
theorem dX3_street_39 : decode cX3_street 39 = .ok (.iconst 3, 1) := by decide +kernel
theorem dX3_street_40 : decode cX3_street 40 = .ok (.idiv, 1) := by decide +kernel
theorem dX3_street_41 : decode cX3_street 41 = .ok (.putfield 82, 3) := by decide +kernel
theorem dX3_street_44 : decode cX3_street 44 = .ok (.iconst 0, 1) := by decide +kernel
theorem dX3_street_45 : decode cX3_street 45 = .ok (.istore_n 1, 1) := by decide +kernel
theorem dX3_street_46 : decode cX3_street 46 = .ok (.iload_n 1, 1) := by decide +kernel
theorem dX3_street_47 : decode cX3_street 47 = .ok (.aload_n 0, 1) := by decide +kernel
theorem dX3_street_48 : decode cX3_street 48 = .ok (.getfield 82, 3) := by decide +kernel
theorem dX3_street_51 : decode cX3_street 51 = .ok (.if_icmp .ge 52, 3) := by decide +kernel
theorem dX3_street_54 : decode cX3_street 54 = .ok (.aload_n 0, 1) := by decide +kernel
theorem dX3_street_55 : decode cX3_street 55 = .ok (.getfield 7, 3) := by decide +kernel
theorem dX3_street_58 : decode cX3_street 58 = .ok (.iload_n 1, 1) := by decide +kernel
theorem dX3_street_59 : decode cX3_street 59 = .ok (.aload_n 0, 1) := by decide +kernel
theorem dX3_street_60 : decode cX3_street 60 = .ok (.getfield 34, 3) := by decide +kernel
theorem dX3_street_63 : decode cX3_street 63 = .ok (.iconst 3, 1) := by decide +kernel
theorem dX3_street_64 : decode cX3_street 64 = .ok (.iload_n 1, 1) := by decide +kernel
theorem dX3_street_65 : decode cX3_street 65 = .ok (.imul, 1) := by decide +kernel
theorem dX3_street_66 : decode cX3_street 66 = .ok (.baload, 1) := by decide +kernel
theorem dX3_street_67 : decode cX3_street 67 = .ok (.invokestatic 70, 3) := by decide +kernel
theorem dX3_street_70 : decode cX3_street 70 = .ok (.iastore, 1) := by decide +kernel
theorem dX3_street_71 : decode cX3_street 71 = .ok (.aload_n 0, 1) := by decide +kernel
theorem dX3_street_72 : decode cX3_street 72 = .ok (.getfield 13, 3) := by decide +kernel
theorem dX3_street_75 : decode cX3_street 75 = .ok (.iload_n 1, 1) := by decide +kernel
theorem dX3_street_76 : decode cX3_street 76 = .ok (.aload_n 0, 1) := by decide +kernel
theorem dX3_street_77 : decode cX3_street 77 = .ok (.getfield 34, 3) := by decide +kernel
theorem dX3_street_80 : decode cX3_street 80 = .ok (.iconst 3, 1) := by decide +kernel
theorem dX3_street_81 : decode cX3_street 81 = .ok (.iload_n 1, 1) := by decide +kernel
theorem dX3_street_82 : decode cX3_street 82 = .ok (.imul, 1) := by decide +kernel
theorem dX3_street_83 : decode cX3_street 83 = .ok (.iconst 1, 1) := by decide +kernel
theorem dX3_street_84 : decode cX3_street 84 = .ok (.iadd, 1) := by decide +kernel
theorem dX3_street_85 : decode cX3_street 85 = .ok (.baload, 1) := by decide +kernel
theorem dX3_street_86 : decode cX3_street 86 = .ok (.bipush 48, 2) := by decide +kernel
theorem dX3_street_88 : decode cX3_street 88 = .ok (.isub, 1) := by decide +kernel
theorem dX3_street_89 : decode cX3_street 89 = .ok (.iastore, 1) := by decide +kernel
theorem dX3_street_90 : decode cX3_street 90 = .ok (.aload_n 0, 1) := by decide +kernel
theorem dX3_street_91 : decode cX3_street 91 = .ok (.getfield 16, 3) := by decide +kernel
theorem dX3_street_94 : decode cX3_street 94 = .ok (.iload_n 1, 1) := by decide +kernel
theorem dX3_street_95 : decode cX3_street 95 = .ok (.iconst 0, 1) := by decide +kernel
theorem dX3_street_96 : decode cX3_street 96 = .ok (.iastore, 1) := by decide +kernel
theorem dX3_street_97 : decode cX3_street 97 = .ok (.iinc 1 1, 3) := by decide +kernel
theorem dX3_street_100 : decode cX3_street 100 = .ok (.goto (-54), 3) := by decide +kernel
theorem dX3_street_103 : decode cX3_street 103 = .ok (.aload_n 0, 1) := by decide +kernel
theorem dX3_street_104 : decode cX3_street 104 = .ok (.dup, 1) := by decide +kernel
theorem dX3_street_105 : decode cX3_street 105 = .ok (.getfield 85, 3) := by decide +kernel
theorem dX3_street_108 : decode cX3_street 108 = .ok (.iconst 1, 1) := by decide +kernel
theorem dX3_street_109 : decode cX3_street 109 = .ok (.iadd, 1) := by decide +kernel
theorem dX3_street_110 : decode cX3_street 110 = .ok (.putfield 85, 3) := by decide +kernel
theorem dX3_street_113 : decode cX3_street 113 = .ok (.aload_n 0, 1) := by decide +kernel
theorem dX3_street_114 : decode cX3_street 114 = .ok (.iconst 0, 1) := by decide +kernel
theorem dX3_street_115 : decode cX3_street 115 = .ok (.putfield 88, 3) := by decide +kernel
theorem dX3_street_118 : decode cX3_street 118 = .ok (.aload_n 0, 1) := by decide +kernel
theorem dX3_street_119 : decode cX3_street 119 = .ok (.iconst 0, 1) := by decide +kernel
theorem dX3_street_120 : decode cX3_street 120 = .ok (.putfield 91, 3) := by decide +kernel
theorem dX3_street_123 : decode cX3_street 123 = .ok (.aload_n 0, 1) := by decide +kernel
theorem dX3_street_124 : decode cX3_street 124 = .ok (.iconst 0, 1) := by decide +kernel
theorem dX3_street_125 : decode cX3_street 125 = .ok (.putfield 94, 3) := by decide +kernel
theorem dX3_street_128 : decode cX3_street 128 = .ok (.aload_n 0, 1) := by decide +kernel
theorem dX3_street_129 : decode cX3_street 129 = .ok (.iconst 0, 1) := by decide +kernel
theorem dX3_street_130 : decode cX3_street 130 = .ok (.putfield 97, 3) := by decide +kernel
theorem dX3_street_133 : decode cX3_street 133 = .ok (.aload_n 0, 1) := by decide +kernel
theorem dX3_street_134 : decode cX3_street 134 = .ok (.iconst 0, 1) := by decide +kernel
theorem dX3_street_135 : decode cX3_street 135 = .ok (.putfield 66, 3) := by decide +kernel
theorem dX3_street_138 : decode cX3_street 138 = .ok (.aload_n 0, 1) := by decide +kernel
theorem dX3_street_139 : decode cX3_street 139 = .ok (.getfield 82, 3) := by decide +kernel
theorem dX3_street_142 : decode cX3_street 142 = .ok (.ireturn, 1) := by decide +kernel
set_option maxRecDepth 20000 in
theorem ggX3_isHouse_X3_within : GoodIn wsX3_isHouse wsX3_within := goodIn_r _ [5] (by decide +kernel) (by decide +kernel)
set_option maxRecDepth 20000 in
theorem gX3_isHouse_X3_within : GoodIn wsX3_isHouse (va_wsS RX3 62 yX3_within wsX3_within) := goodIn_app (goodIn_of _ (by decide +kernel)) ggX3_isHouse_X3_within
theorem dX3_isHouse_0 : decode cX3_isHouse 0 = .ok (.iload_n 1, 1) := by decide +kernel
theorem dX3_isHouse_1 : decode cX3_isHouse 1 = .ok (.iconst 0, 1) := by decide +kernel
theorem dX3_isHouse_2 : decode cX3_isHouse 2 = .ok (.aload_n 0, 1) := by decide +kernel
theorem dX3_isHouse_3 : decode cX3_isHouse 3 = .ok (.getfield 82, 3) := by decide +kernel
theorem dX3_isHouse_6 : decode cX3_isHouse 6 = .ok (.iconst 1, 1) := by decide +kernel
theorem dX3_isHouse_7 : decode cX3_isHouse 7 = .ok (.isub, 1) := by decide +kernel
theorem dX3_isHouse_8 : decode cX3_isHouse 8 = .ok (.invokestatic 62, 3) := by decide +kernel
theorem dX3_isHouse_11 : decode cX3_isHouse 11 = .ok (.ireturn, 1) := by decide +kernel
set_option maxRecDepth 20000 in
theorem ggX3_isDay_X3_within : GoodIn wsX3_isDay wsX3_within := goodIn_r _ [6] (by decide +kernel) (by decide +kernel)
set_option maxRecDepth 20000 in
theorem gX3_isDay_X3_within : GoodIn wsX3_isDay (va_wsS RX3 62 yX3_within wsX3_within) := goodIn_app (goodIn_of _ (by decide +kernel)) ggX3_isDay_X3_within
theorem dX3_isDay_0 : decode cX3_isDay 0 = .ok (.aload_n 0, 1) := by decide +kernel
theorem dX3_isDay_1 : decode cX3_isDay 1 = .ok (.getfield 82, 3) := by decide +kernel
theorem dX3_isDay_4 : decode cX3_isDay 4 = .ok (.ifCond .le 19, 3) := by decide +kernel
theorem dX3_isDay_7 : decode cX3_isDay 7 = .ok (.iload_n 1, 1) := by decide +kernel
theorem dX3_isDay_8 : decode cX3_isDay 8 = .ok (.iconst 0, 1) := by decide +kernel
theorem dX3_isDay_9 : decode cX3_isDay 9 = .ok (.aload_n 0, 1) := by decide +kernel
theorem dX3_isDay_10 : decode cX3_isDay 10 = .ok (.getfield 88, 3) := by decide +kernel
theorem dX3_isDay_13 : decode cX3_isDay 13 = .ok (.invokestatic 62, 3) := by decide +kernel
theorem dX3_isDay_16 : decode cX3_isDay 16 = .ok (.ifCond .eq 7, 3) := by decide +kernel
theorem dX3_isDay_19 : decode cX3_isDay 19 = .ok (.iconst 1, 1) := by decide +kernel
theorem dX3_isDay_20 : decode cX3_isDay 20 = .ok (.goto 4, 3) := by decide +kernel
theorem dX3_isDay_23 : decode cX3_isDay 23 = .ok (.iconst 0, 1) := by decide +kernel
theorem dX3_isDay_24 : decode cX3_isDay 24 = .ok (.ireturn, 1) := by decide +kernel
theorem dX3_numberBy_0 : decode cX3_numberBy 0 = .ok (.aload_n 0, 1) := by decide +kernel
theorem dX3_numberBy_1 : decode cX3_numberBy 1 = .ok (.getfield 7, 3) := by decide +kernel
theorem dX3_numberBy_4 : decode cX3_numberBy 4 = .ok (.iload_n 1, 1) := by decide +kernel
theorem dX3_numberBy_5 : decode cX3_numberBy 5 = .ok (.iaload, 1) := by decide +kernel
theorem dX3_numberBy_6 : decode cX3_numberBy 6 = .ok (.iconst 1, 1) := by decide +kernel
theorem dX3_numberBy_7 : decode cX3_numberBy 7 = .ok (.if_icmp .ne 9, 3) := by decide +kernel
theorem dX3_numberBy_10 : decode cX3_numberBy 10 = .ok (.iload_n 2, 1) := by decide +kernel
theorem dX3_numberBy_11 : decode cX3_numberBy 11 = .ok (.iconst 2, 1) := by decide +kernel
theorem dX3_numberBy_12 : decode cX3_numberBy 12 = .ok (.idiv, 1) := by decide +kernel
theorem dX3_numberBy_13 : decode cX3_numberBy 13 = .ok (.goto 4, 3) := by decide +kernel
theorem dX3_numberBy_16 : decode cX3_numberBy 16 = .ok (.iload_n 2, 1) := by decide +kernel
theorem dX3_numberBy_17 : decode cX3_numberBy 17 = .ok (.ireturn, 1) := by decide +kernel
set_option maxRecDepth 20000 in
theorem ggX3_number_X3_numberBy : GoodIn wsX3_number wsX3_numberBy := goodIn_r _ [6, 7, 8, 9, 10, 11, 12, 13, 14, 15, 16, 17, 18, 19, 20, 21, 22, 23, 24, 25, 26, 27, 28, 29, 30, 31, 32, 33, 34, 35, 36, 37, 38, 39] (by decide +kernel) (by decide +kernel)
set_option maxRecDepth 20000 in
theorem gX3_number_X3_numberBy : GoodIn wsX3_number (wsV RX3 100 RX3 yX3_numberBy wsX3_numberBy) := goodIn_app (goodIn_of _ (by decide +kernel)) ggX3_number_X3_numberBy
theorem dX3_number_0 : decode cX3_number 0 = .ok (.aload_n 0, 1) := by decide +kernel
theorem dX3_number_1 : decode cX3_number 1 = .ok (.iload_n 1, 1) := by decide +kernel
theorem dX3_number_2 : decode cX3_number 2 = .ok (.aload_n 0, 1) := by decide +kernel
theorem dX3_number_3 : decode cX3_number 3 = .ok (.getfield 13, 3) := by decide +kernel
theorem dX3_number_6 : decode cX3_number 6 = .ok (.iload_n 1, 1) := by decide +kernel
theorem dX3_number_7 : decode cX3_number 7 = .ok (.iaload, 1) := by decide +kernel
theorem dX3_number_8 : decode cX3_number 8 = .ok (.invokevirtual 100, 3) := by decide +kernel
theorem dX3_number_11 : decode cX3_number 11 = .ok (.ireturn, 1) := by decide +kernel
set_option maxRecDepth 20000 in
theorem ggX3_numberOn_X3_numberBy : GoodIn wsX3_numberOn wsX3_numberBy := goodIn_r _ [8, 9, 10, 11, 12, 13, 14, 15, 16, 17, 18, 19, 20, 21, 22, 23, 24, 25, 26, 27, 28, 29, 30, 31, 32, 33, 34, 35, 36, 37, 38, 39, 40, 41] (by decide +kernel) (by decide +kernel)
set_option maxRecDepth 20000 in
theorem gX3_numberOn_X3_numberBy : GoodIn wsX3_numberOn (wsV RX3 100 RX3 yX3_numberBy wsX3_numberBy) := goodIn_app (goodIn_of _ (by decide +kernel)) ggX3_numberOn_X3_numberBy
theorem dX3_numberOn_0 : decode cX3_numberOn 0 = .ok (.aload_n 0, 1) := by decide +kernel
theorem dX3_numberOn_1 : decode cX3_numberOn 1 = .ok (.iload_n 1, 1) := by decide +kernel
theorem dX3_numberOn_2 : decode cX3_numberOn 2 = .ok (.iload_n 2, 1) := by decide +kernel
theorem dX3_numberOn_3 : decode cX3_numberOn 3 = .ok (.aload_n 0, 1) := by decide +kernel
theorem dX3_numberOn_4 : decode cX3_numberOn 4 = .ok (.getfield 88, 3) := by decide +kernel
theorem dX3_numberOn_7 : decode cX3_numberOn 7 = .ok (.if_icmp .ne 12, 3) := by decide +kernel
theorem dX3_numberOn_10 : decode cX3_numberOn 10 = .ok (.aload_n 0, 1) := by decide +kernel
theorem dX3_numberOn_11 : decode cX3_numberOn 11 = .ok (.getfield 13, 3) := by decide +kernel
theorem dX3_numberOn_14 : decode cX3_numberOn 14 = .ok (.iload_n 1, 1) := by decide +kernel
theorem dX3_numberOn_15 : decode cX3_numberOn 15 = .ok (.iaload, 1) := by decide +kernel
theorem dX3_numberOn_16 : decode cX3_numberOn 16 = .ok (.goto 14, 3) := by decide +kernel
theorem dX3_numberOn_19 : decode cX3_numberOn 19 = .ok (.aload_n 0, 1) := by decide +kernel
theorem dX3_numberOn_20 : decode cX3_numberOn 20 = .ok (.getfield 19, 3) := by decide +kernel
theorem dX3_numberOn_23 : decode cX3_numberOn 23 = .ok (.bipush 6, 2) := by decide +kernel
theorem dX3_numberOn_25 : decode cX3_numberOn 25 = .ok (.iload_n 2, 1) := by decide +kernel
theorem dX3_numberOn_26 : decode cX3_numberOn 26 = .ok (.imul, 1) := by decide +kernel
theorem dX3_numberOn_27 : decode cX3_numberOn 27 = .ok (.iload_n 1, 1) := by decide +kernel
theorem dX3_numberOn_28 : decode cX3_numberOn 28 = .ok (.iadd, 1) := by decide +kernel
theorem dX3_numberOn_29 : decode cX3_numberOn 29 = .ok (.iaload, 1) := by decide +kernel
theorem dX3_numberOn_30 : decode cX3_numberOn 30 = .ok (.invokevirtual 100, 3) := by decide +kernel
theorem dX3_numberOn_33 : decode cX3_numberOn 33 = .ok (.ireturn, 1) := by decide +kernel
theorem dX3_mayBirth_0 : decode cX3_mayBirth 0 = .ok (.aload_n 0, 1) := by decide +kernel
theorem dX3_mayBirth_1 : decode cX3_mayBirth 1 = .ok (.getfield 7, 3) := by decide +kernel
theorem dX3_mayBirth_4 : decode cX3_mayBirth 4 = .ok (.iload_n 1, 1) := by decide +kernel
theorem dX3_mayBirth_5 : decode cX3_mayBirth 5 = .ok (.iaload, 1) := by decide +kernel
theorem dX3_mayBirth_6 : decode cX3_mayBirth 6 = .ok (.iconst 2, 1) := by decide +kernel
theorem dX3_mayBirth_7 : decode cX3_mayBirth 7 = .ok (.if_icmp .eq 17, 3) := by decide +kernel
theorem dX3_mayBirth_10 : decode cX3_mayBirth 10 = .ok (.aload_n 0, 1) := by decide +kernel
theorem dX3_mayBirth_11 : decode cX3_mayBirth 11 = .ok (.getfield 7, 3) := by decide +kernel
theorem dX3_mayBirth_14 : decode cX3_mayBirth 14 = .ok (.iload_n 1, 1) := by decide +kernel
theorem dX3_mayBirth_15 : decode cX3_mayBirth 15 = .ok (.iaload, 1) := by decide +kernel
theorem dX3_mayBirth_16 : decode cX3_mayBirth 16 = .ok (.iconst 4, 1) := by decide +kernel
theorem dX3_mayBirth_17 : decode cX3_mayBirth 17 = .ok (.if_icmp .eq 7, 3) := by decide +kernel
theorem dX3_mayBirth_20 : decode cX3_mayBirth 20 = .ok (.iconst 1, 1) := by decide +kernel
theorem dX3_mayBirth_21 : decode cX3_mayBirth 21 = .ok (.goto 4, 3) := by decide +kernel
theorem dX3_mayBirth_24 : decode cX3_mayBirth 24 = .ok (.iconst 0, 1) := by decide +kernel
theorem dX3_mayBirth_25 : decode cX3_mayBirth 25 = .ok (.ireturn, 1) := by decide +kernel
theorem dX3_lends_0 : decode cX3_lends 0 = .ok (.iload_n 1, 1) := by decide +kernel
theorem dX3_lends_1 : decode cX3_lends 1 = .ok (.iconst 1, 1) := by decide +kernel
theorem dX3_lends_2 : decode cX3_lends 2 = .ok (.iadd, 1) := by decide +kernel
theorem dX3_lends_3 : decode cX3_lends 3 = .ok (.aload_n 0, 1) := by decide +kernel
theorem dX3_lends_4 : decode cX3_lends 4 = .ok (.getfield 82, 3) := by decide +kernel
theorem dX3_lends_7 : decode cX3_lends 7 = .ok (.if_icmp .ge 19, 3) := by decide +kernel
theorem dX3_lends_10 : decode cX3_lends 10 = .ok (.aload_n 0, 1) := by decide +kernel
theorem dX3_lends_11 : decode cX3_lends 11 = .ok (.getfield 7, 3) := by decide +kernel
theorem dX3_lends_14 : decode cX3_lends 14 = .ok (.iload_n 1, 1) := by decide +kernel
theorem dX3_lends_15 : decode cX3_lends 15 = .ok (.iconst 1, 1) := by decide +kernel
theorem dX3_lends_16 : decode cX3_lends 16 = .ok (.iadd, 1) := by decide +kernel
theorem dX3_lends_17 : decode cX3_lends 17 = .ok (.iaload, 1) := by decide +kernel
theorem dX3_lends_18 : decode cX3_lends 18 = .ok (.iconst 3, 1) := by decide +kernel
theorem dX3_lends_19 : decode cX3_lends 19 = .ok (.if_icmp .ne 7, 3) := by decide +kernel
theorem dX3_lends_22 : decode cX3_lends 22 = .ok (.iconst 1, 1) := by decide +kernel
theorem dX3_lends_23 : decode cX3_lends 23 = .ok (.goto 4, 3) := by decide +kernel
theorem dX3_lends_26 : decode cX3_lends 26 = .ok (.iconst 0, 1) := by decide +kernel
theorem dX3_lends_27 : decode cX3_lends 27 = .ok (.ireturn, 1) := by decide +kernel
set_option maxRecDepth 20000 in
theorem ggX3_ageNone_X3_lends : GoodIn wsX3_ageNone wsX3_lends := goodIn_r _ [6, 7, 8, 9, 10, 11, 12, 13, 14, 15, 16, 17, 18, 19, 20, 21, 22, 23, 24, 25, 26, 27, 28, 29, 30, 31, 32, 33, 34, 35, 36, 37, 38, 39, 40] (by decide +kernel) (by decide +kernel)
set_option maxRecDepth 20000 in
theorem gX3_ageNone_X3_lends : GoodIn wsX3_ageNone (wsV RX3 104 RX3 yX3_lends wsX3_lends) := goodIn_app (goodIn_of _ (by decide +kernel)) ggX3_ageNone_X3_lends
theorem dX3_ageNone_0 : decode cX3_ageNone 0 = .ok (.aload_n 0, 1) := by decide +kernel
theorem dX3_ageNone_1 : decode cX3_ageNone 1 = .ok (.getfield 13, 3) := by decide +kernel
theorem dX3_ageNone_4 : decode cX3_ageNone 4 = .ok (.iload_n 1, 1) := by decide +kernel
theorem dX3_ageNone_5 : decode cX3_ageNone 5 = .ok (.iconst 0, 1) := by decide +kernel
theorem dX3_ageNone_6 : decode cX3_ageNone 6 = .ok (.iastore, 1) := by decide +kernel
theorem dX3_ageNone_7 : decode cX3_ageNone 7 = .ok (.aload_n 0, 1) := by decide +kernel
theorem dX3_ageNone_8 : decode cX3_ageNone 8 = .ok (.iload_n 1, 1) := by decide +kernel
theorem dX3_ageNone_9 : decode cX3_ageNone 9 = .ok (.invokevirtual 104, 3) := by decide +kernel
theorem dX3_ageNone_12 : decode cX3_ageNone 12 = .ok (.ifCond .eq 12, 3) := by decide +kernel
theorem dX3_ageNone_15 : decode cX3_ageNone 15 = .ok (.aload_n 0, 1) := by decide +kernel
theorem dX3_ageNone_16 : decode cX3_ageNone 16 = .ok (.getfield 13, 3) := by decide +kernel
theorem dX3_ageNone_19 : decode cX3_ageNone 19 = .ok (.iload_n 1, 1) := by decide +kernel
theorem dX3_ageNone_20 : decode cX3_ageNone 20 = .ok (.iconst 1, 1) := by decide +kernel
theorem dX3_ageNone_21 : decode cX3_ageNone 21 = .ok (.iadd, 1) := by decide +kernel
theorem dX3_ageNone_22 : decode cX3_ageNone 22 = .ok (.iconst 0, 1) := by decide +kernel
theorem dX3_ageNone_23 : decode cX3_ageNone 23 = .ok (.iastore, 1) := by decide +kernel
theorem dX3_ageNone_24 : decode cX3_ageNone 24 = .ok (.return_, 1) := by decide +kernel
theorem dX3_ageMore_0 : decode cX3_ageMore 0 = .ok (.iconst 0, 1) := by decide +kernel
theorem dX3_ageMore_1 : decode cX3_ageMore 1 = .ok (.istore_n 1, 1) := by decide +kernel
theorem dX3_ageMore_2 : decode cX3_ageMore 2 = .ok (.iload_n 1, 1) := by decide +kernel
theorem dX3_ageMore_3 : decode cX3_ageMore 3 = .ok (.aload_n 0, 1) := by decide +kernel
theorem dX3_ageMore_4 : decode cX3_ageMore 4 = .ok (.getfield 82, 3) := by decide +kernel
theorem dX3_ageMore_7 : decode cX3_ageMore 7 = .ok (.if_icmp .ge 33, 3) := by decide +kernel
theorem dX3_ageMore_10 : decode cX3_ageMore 10 = .ok (.aload_n 0, 1) := by decide +kernel
theorem dX3_ageMore_11 : decode cX3_ageMore 11 = .ok (.getfield 13, 3) := by decide +kernel
theorem dX3_ageMore_14 : decode cX3_ageMore 14 = .ok (.iload_n 1, 1) := by decide +kernel
theorem dX3_ageMore_15 : decode cX3_ageMore 15 = .ok (.dup2, 1) := by decide +kernel
theorem dX3_ageMore_16 : decode cX3_ageMore 16 = .ok (.iaload, 1) := by decide +kernel
theorem dX3_ageMore_17 : decode cX3_ageMore 17 = .ok (.aload_n 0, 1) := by decide +kernel
theorem dX3_ageMore_18 : decode cX3_ageMore 18 = .ok (.getfield 7, 3) := by decide +kernel
theorem dX3_ageMore_21 : decode cX3_ageMore 21 = .ok (.iload_n 1, 1) := by decide +kernel
theorem dX3_ageMore_22 : decode cX3_ageMore 22 = .ok (.iaload, 1) := by decide +kernel
theorem dX3_ageMore_23 : decode cX3_ageMore 23 = .ok (.iconst 4, 1) := by decide +kernel
theorem dX3_ageMore_24 : decode cX3_ageMore 24 = .ok (.if_icmp .ne 7, 3) := by decide +kernel
theorem dX3_ageMore_27 : decode cX3_ageMore 27 = .ok (.iconst 0, 1) := by decide +kernel
theorem dX3_ageMore_28 : decode cX3_ageMore 28 = .ok (.goto 4, 3) := by decide +kernel
theorem dX3_ageMore_31 : decode cX3_ageMore 31 = .ok (.iconst 1, 1) := by decide +kernel
theorem dX3_ageMore_32 : decode cX3_ageMore 32 = .ok (.iadd, 1) := by decide +kernel
theorem dX3_ageMore_33 : decode cX3_ageMore 33 = .ok (.iastore, 1) := by decide +kernel
theorem dX3_ageMore_34 : decode cX3_ageMore 34 = .ok (.iinc 1 1, 3) := by decide +kernel
theorem dX3_ageMore_37 : decode cX3_ageMore 37 = .ok (.goto (-35), 3) := by decide +kernel
theorem dX3_ageMore_40 : decode cX3_ageMore 40 = .ok (.return_, 1) := by decide +kernel
set_option maxRecDepth 20000 in
theorem ggX3_orderOf_X3_number : GoodIn wsX3_orderOf wsX3_number := goodIn_r _ [6, 7, 8, 9, 10, 5, 11, 12, 13, 14, 15, 16, 17, 18, 19, 20, 21, 22, 23, 24, 25, 26, 27, 28, 29, 30, 31, 32, 33, 34, 35, 36, 37, 38, 39, 40, 41, 42, 43, 44] (by decide +kernel) (by decide +kernel)
set_option maxRecDepth 20000 in
theorem gX3_orderOf_X3_number : GoodIn wsX3_orderOf (wsV RX3 107 RX3 yX3_number wsX3_number) := goodIn_app (goodIn_of _ (by decide +kernel)) ggX3_orderOf_X3_number
theorem dX3_orderOf_0 : decode cX3_orderOf 0 = .ok (.iconst 0, 1) := by decide +kernel
theorem dX3_orderOf_1 : decode cX3_orderOf 1 = .ok (.istore_n 2, 1) := by decide +kernel
theorem dX3_orderOf_2 : decode cX3_orderOf 2 = .ok (.iconst 0, 1) := by decide +kernel
theorem dX3_orderOf_3 : decode cX3_orderOf 3 = .ok (.istore_n 3, 1) := by decide +kernel
theorem dX3_orderOf_4 : decode cX3_orderOf 4 = .ok (.iload_n 3, 1) := by decide +kernel
theorem dX3_orderOf_5 : decode cX3_orderOf 5 = .ok (.aload_n 0, 1) := by decide +kernel
theorem dX3_orderOf_6 : decode cX3_orderOf 6 = .ok (.getfield 82, 3) := by decide +kernel
theorem dX3_orderOf_9 : decode cX3_orderOf 9 = .ok (.if_icmp .ge 48, 3) := by decide +kernel
theorem dX3_orderOf_12 : decode cX3_orderOf 12 = .ok (.iload_n 2, 1) := by decide +kernel
theorem dX3_orderOf_13 : decode cX3_orderOf 13 = .ok (.aload_n 0, 1) := by decide +kernel
theorem dX3_orderOf_14 : decode cX3_orderOf 14 = .ok (.iload_n 3, 1) := by decide +kernel
theorem dX3_orderOf_15 : decode cX3_orderOf 15 = .ok (.invokevirtual 107, 3) := by decide +kernel
theorem dX3_orderOf_18 : decode cX3_orderOf 18 = .ok (.aload_n 0, 1) := by decide +kernel
theorem dX3_orderOf_19 : decode cX3_orderOf 19 = .ok (.iload_n 1, 1) := by decide +kernel
theorem dX3_orderOf_20 : decode cX3_orderOf 20 = .ok (.invokevirtual 107, 3) := by decide +kernel
theorem dX3_orderOf_23 : decode cX3_orderOf 23 = .ok (.if_icmp .lt 21, 3) := by decide +kernel
theorem dX3_orderOf_26 : decode cX3_orderOf 26 = .ok (.aload_n 0, 1) := by decide +kernel
theorem dX3_orderOf_27 : decode cX3_orderOf 27 = .ok (.iload_n 3, 1) := by decide +kernel
theorem dX3_orderOf_28 : decode cX3_orderOf 28 = .ok (.invokevirtual 107, 3) := by decide +kernel
theorem dX3_orderOf_31 : decode cX3_orderOf 31 = .ok (.aload_n 0, 1) := by decide +kernel
theorem dX3_orderOf_32 : decode cX3_orderOf 32 = .ok (.iload_n 1, 1) := by decide +kernel
theorem dX3_orderOf_33 : decode cX3_orderOf 33 = .ok (.invokevirtual 107, 3) := by decide +kernel
theorem dX3_orderOf_36 : decode cX3_orderOf 36 = .ok (.if_icmp .ne 12, 3) := by decide +kernel
theorem dX3_orderOf_39 : decode cX3_orderOf 39 = .ok (.iload_n 3, 1) := by decide +kernel
theorem dX3_orderOf_40 : decode cX3_orderOf 40 = .ok (.iload_n 1, 1) := by decide +kernel
theorem dX3_orderOf_41 : decode cX3_orderOf 41 = .ok (.if_icmp .ge 7, 3) := by decide +kernel
theorem dX3_orderOf_44 : decode cX3_orderOf 44 = .ok (.iconst 1, 1) := by decide +kernel
theorem dX3_orderOf_45 : decode cX3_orderOf 45 = .ok (.goto 4, 3) := by decide +kernel
theorem dX3_orderOf_48 : decode cX3_orderOf 48 = .ok (.iconst 0, 1) := by decide +kernel
theorem dX3_orderOf_49 : decode cX3_orderOf 49 = .ok (.iadd, 1) := by decide +kernel
theorem dX3_orderOf_50 : decode cX3_orderOf 50 = .ok (.istore_n 2, 1) := by decide +kernel
theorem dX3_orderOf_51 : decode cX3_orderOf 51 = .ok (.iinc 3 1, 3) := by decide +kernel
theorem dX3_orderOf_54 : decode cX3_orderOf 54 = .ok (.goto (-50), 3) := by decide +kernel
theorem dX3_orderOf_57 : decode cX3_orderOf 57 = .ok (.iload_n 2, 1) := by decide +kernel
theorem dX3_orderOf_58 : decode cX3_orderOf 58 = .ok (.ireturn, 1) := by decide +kernel
set_option maxRecDepth 20000 in
theorem ggX3_walkNow_X3_orderOf : GoodIn wsX3_walkNow wsX3_orderOf := goodIn_r _ [6, 1, 7, 8, 9, 5, 10, 11, 12, 13, 14, 15, 16, 17, 18, 19, 20, 21, 22, 23, 24, 25, 26, 27, 28, 29, 30, 31, 32, 33, 34, 35, 36, 37, 38, 39, 40, 41, 42, 43, 44, 45, 46, 47, 48] (by decide +kernel) (by decide +kernel)
set_option maxRecDepth 20000 in
theorem gX3_walkNow_X3_orderOf : GoodIn wsX3_walkNow (wsV RX3 110 RX3 yX3_orderOf wsX3_orderOf) := goodIn_app (goodIn_of _ (by decide +kernel)) ggX3_walkNow_X3_orderOf
theorem dX3_walkNow_0 : decode cX3_walkNow 0 = .ok (.iconst 0, 1) := by decide +kernel
theorem dX3_walkNow_1 : decode cX3_walkNow 1 = .ok (.istore_n 1, 1) := by decide +kernel
theorem dX3_walkNow_2 : decode cX3_walkNow 2 = .ok (.iconst 0, 1) := by decide +kernel
theorem dX3_walkNow_3 : decode cX3_walkNow 3 = .ok (.istore_n 2, 1) := by decide +kernel
theorem dX3_walkNow_4 : decode cX3_walkNow 4 = .ok (.iconst 0, 1) := by decide +kernel
theorem dX3_walkNow_5 : decode cX3_walkNow 5 = .ok (.istore_n 3, 1) := by decide +kernel
theorem dX3_walkNow_6 : decode cX3_walkNow 6 = .ok (.iload_n 3, 1) := by decide +kernel
theorem dX3_walkNow_7 : decode cX3_walkNow 7 = .ok (.aload_n 0, 1) := by decide +kernel
theorem dX3_walkNow_8 : decode cX3_walkNow 8 = .ok (.getfield 82, 3) := by decide +kernel
theorem dX3_walkNow_11 : decode cX3_walkNow 11 = .ok (.if_icmp .ge 51, 3) := by decide +kernel
theorem dX3_walkNow_14 : decode cX3_walkNow 14 = .ok (.iconst 0, 1) := by decide +kernel
theorem dX3_walkNow_15 : decode cX3_walkNow 15 = .ok (.istore 4, 2) := by decide +kernel
theorem dX3_walkNow_17 : decode cX3_walkNow 17 = .ok (.aload_n 0, 1) := by decide +kernel
theorem dX3_walkNow_18 : decode cX3_walkNow 18 = .ok (.iload 4, 2) := by decide +kernel
theorem dX3_walkNow_20 : decode cX3_walkNow 20 = .ok (.invokevirtual 110, 3) := by decide +kernel
theorem dX3_walkNow_23 : decode cX3_walkNow 23 = .ok (.iload_n 3, 1) := by decide +kernel
theorem dX3_walkNow_24 : decode cX3_walkNow 24 = .ok (.if_icmp .eq 9, 3) := by decide +kernel
theorem dX3_walkNow_27 : decode cX3_walkNow 27 = .ok (.iinc 4 1, 3) := by decide +kernel
theorem dX3_walkNow_30 : decode cX3_walkNow 30 = .ok (.goto (-13), 3) := by decide +kernel
theorem dX3_walkNow_33 : decode cX3_walkNow 33 = .ok (.iload_n 1, 1) := by decide +kernel
theorem dX3_walkNow_34 : decode cX3_walkNow 34 = .ok (.iload 4, 2) := by decide +kernel
theorem dX3_walkNow_36 : decode cX3_walkNow 36 = .ok (.iload_n 2, 1) := by decide +kernel
theorem dX3_walkNow_37 : decode cX3_walkNow 37 = .ok (.if_icmp .le 10, 3) := by decide +kernel
theorem dX3_walkNow_40 : decode cX3_walkNow 40 = .ok (.iload 4, 2) := by decide +kernel
theorem dX3_walkNow_42 : decode cX3_walkNow 42 = .ok (.iload_n 2, 1) := by decide +kernel
theorem dX3_walkNow_43 : decode cX3_walkNow 43 = .ok (.isub, 1) := by decide +kernel
theorem dX3_walkNow_44 : decode cX3_walkNow 44 = .ok (.goto 7, 3) := by decide +kernel
theorem dX3_walkNow_47 : decode cX3_walkNow 47 = .ok (.iload_n 2, 1) := by decide +kernel
theorem dX3_walkNow_48 : decode cX3_walkNow 48 = .ok (.iload 4, 2) := by decide +kernel
theorem dX3_walkNow_50 : decode cX3_walkNow 50 = .ok (.isub, 1) := by decide +kernel
theorem dX3_walkNow_51 : decode cX3_walkNow 51 = .ok (.iadd, 1) := by decide +kernel
theorem dX3_walkNow_52 : decode cX3_walkNow 52 = .ok (.istore_n 1, 1) := by decide +kernel
theorem dX3_walkNow_53 : decode cX3_walkNow 53 = .ok (.iload 4, 2) := by decide +kernel
theorem dX3_walkNow_55 : decode cX3_walkNow 55 = .ok (.istore_n 2, 1) := by decide +kernel
theorem dX3_walkNow_56 : decode cX3_walkNow 56 = .ok (.iinc 3 1, 3) := by decide +kernel
theorem dX3_walkNow_59 : decode cX3_walkNow 59 = .ok (.goto (-53), 3) := by decide +kernel
theorem dX3_walkNow_62 : decode cX3_walkNow 62 = .ok (.iload_n 1, 1) := by decide +kernel
theorem dX3_walkNow_63 : decode cX3_walkNow 63 = .ok (.ireturn, 1) := by decide +kernel
set_option maxRecDepth 20000 in
theorem ggX3_houseOf_X3_numberOn : GoodIn wsX3_houseOf wsX3_numberOn := goodIn_r _ [6, 7, 8, 9, 10, 11, 12, 5, 13, 14, 15, 16, 17, 18, 19, 20, 21, 22, 23, 24, 25, 26, 27, 28, 29, 30, 31, 32, 33, 34, 35, 36, 37, 38, 39, 40, 41, 42, 43, 44, 45, 46] (by decide +kernel) (by decide +kernel)
set_option maxRecDepth 20000 in
theorem gX3_houseOf_X3_numberOn : GoodIn wsX3_houseOf (wsV RX3 113 RX3 yX3_numberOn wsX3_numberOn) := goodIn_app (goodIn_of _ (by decide +kernel)) ggX3_houseOf_X3_numberOn
theorem dX3_houseOf_0 : decode cX3_houseOf 0 = .ok (.iconst (-1), 1) := by decide +kernel
theorem dX3_houseOf_1 : decode cX3_houseOf 1 = .ok (.istore_n 3, 1) := by decide +kernel
theorem dX3_houseOf_2 : decode cX3_houseOf 2 = .ok (.aload_n 0, 1) := by decide +kernel
theorem dX3_houseOf_3 : decode cX3_houseOf 3 = .ok (.getfield 82, 3) := by decide +kernel
theorem dX3_houseOf_6 : decode cX3_houseOf 6 = .ok (.iconst 1, 1) := by decide +kernel
theorem dX3_houseOf_7 : decode cX3_houseOf 7 = .ok (.isub, 1) := by decide +kernel
theorem dX3_houseOf_8 : decode cX3_houseOf 8 = .ok (.istore 4, 2) := by decide +kernel
theorem dX3_houseOf_10 : decode cX3_houseOf 10 = .ok (.iload 4, 2) := by decide +kernel
theorem dX3_houseOf_12 : decode cX3_houseOf 12 = .ok (.ifCond .lt 27, 3) := by decide +kernel
theorem dX3_houseOf_15 : decode cX3_houseOf 15 = .ok (.aload_n 0, 1) := by decide +kernel
theorem dX3_houseOf_16 : decode cX3_houseOf 16 = .ok (.iload 4, 2) := by decide +kernel
theorem dX3_houseOf_18 : decode cX3_houseOf 18 = .ok (.iload_n 2, 1) := by decide +kernel
theorem dX3_houseOf_19 : decode cX3_houseOf 19 = .ok (.invokevirtual 113, 3) := by decide +kernel
theorem dX3_houseOf_22 : decode cX3_houseOf 22 = .ok (.iload_n 1, 1) := by decide +kernel
theorem dX3_houseOf_23 : decode cX3_houseOf 23 = .ok (.if_icmp .ne 8, 3) := by decide +kernel
theorem dX3_houseOf_26 : decode cX3_houseOf 26 = .ok (.iload 4, 2) := by decide +kernel
theorem dX3_houseOf_28 : decode cX3_houseOf 28 = .ok (.goto 4, 3) := by decide +kernel
theorem dX3_houseOf_31 : decode cX3_houseOf 31 = .ok (.iload_n 3, 1) := by decide +kernel
theorem dX3_houseOf_32 : decode cX3_houseOf 32 = .ok (.istore_n 3, 1) := by decide +kernel
theorem dX3_houseOf_33 : decode cX3_houseOf 33 = .ok (.iinc 4 (-1), 3) := by decide +kernel
theorem dX3_houseOf_36 : decode cX3_houseOf 36 = .ok (.goto (-26), 3) := by decide +kernel
theorem dX3_houseOf_39 : decode cX3_houseOf 39 = .ok (.iload_n 3, 1) := by decide +kernel
theorem dX3_houseOf_40 : decode cX3_houseOf 40 = .ok (.ireturn, 1) := by decide +kernel
set_option maxRecDepth 20000 in
theorem ggX3_owes_X3_houseOf : GoodIn wsX3_owes wsX3_houseOf := goodIn_r _ [9, 10, 11, 12, 13, 8, 14, 3, 15, 16, 17, 18, 19, 20, 21, 22, 23, 24, 25, 26, 27, 28, 29, 30, 31, 32, 33, 34, 35, 36, 37, 38, 39, 40, 41, 42, 43, 44, 45, 46, 47, 48, 49, 50, 51, 52, 53] (by decide +kernel) (by decide +kernel)
set_option maxRecDepth 20000 in
theorem gX3_owes_X3_houseOf : GoodIn wsX3_owes (wsV RX3 116 RX3 yX3_houseOf wsX3_houseOf) := goodIn_app (goodIn_of _ (by decide +kernel)) ggX3_owes_X3_houseOf
theorem dX3_owes_0 : decode cX3_owes 0 = .ok (.iconst 0, 1) := by decide +kernel
theorem dX3_owes_1 : decode cX3_owes 1 = .ok (.istore_n 2, 1) := by decide +kernel
theorem dX3_owes_2 : decode cX3_owes 2 = .ok (.iconst 0, 1) := by decide +kernel
theorem dX3_owes_3 : decode cX3_owes 3 = .ok (.istore_n 3, 1) := by decide +kernel
theorem dX3_owes_4 : decode cX3_owes 4 = .ok (.iload_n 3, 1) := by decide +kernel
theorem dX3_owes_5 : decode cX3_owes 5 = .ok (.aload_n 0, 1) := by decide +kernel
theorem dX3_owes_6 : decode cX3_owes 6 = .ok (.getfield 94, 3) := by decide +kernel
theorem dX3_owes_9 : decode cX3_owes 9 = .ok (.if_icmp .ge 40, 3) := by decide +kernel
theorem dX3_owes_12 : decode cX3_owes 12 = .ok (.iload_n 2, 1) := by decide +kernel
theorem dX3_owes_13 : decode cX3_owes 13 = .ok (.aload_n 0, 1) := by decide +kernel
theorem dX3_owes_14 : decode cX3_owes 14 = .ok (.aload_n 0, 1) := by decide +kernel
theorem dX3_owes_15 : decode cX3_owes 15 = .ok (.getfield 25, 3) := by decide +kernel
theorem dX3_owes_18 : decode cX3_owes 18 = .ok (.iload_n 3, 1) := by decide +kernel
theorem dX3_owes_19 : decode cX3_owes 19 = .ok (.iaload, 1) := by decide +kernel
theorem dX3_owes_20 : decode cX3_owes 20 = .ok (.aload_n 0, 1) := by decide +kernel
theorem dX3_owes_21 : decode cX3_owes 21 = .ok (.getfield 88, 3) := by decide +kernel
theorem dX3_owes_24 : decode cX3_owes 24 = .ok (.invokevirtual 116, 3) := by decide +kernel
theorem dX3_owes_27 : decode cX3_owes 27 = .ok (.iload_n 1, 1) := by decide +kernel
theorem dX3_owes_28 : decode cX3_owes 28 = .ok (.if_icmp .ne 12, 3) := by decide +kernel
theorem dX3_owes_31 : decode cX3_owes 31 = .ok (.aload_n 0, 1) := by decide +kernel
theorem dX3_owes_32 : decode cX3_owes 32 = .ok (.getfield 22, 3) := by decide +kernel
theorem dX3_owes_35 : decode cX3_owes 35 = .ok (.iload_n 3, 1) := by decide +kernel
theorem dX3_owes_36 : decode cX3_owes 36 = .ok (.iaload, 1) := by decide +kernel
theorem dX3_owes_37 : decode cX3_owes 37 = .ok (.goto 4, 3) := by decide +kernel
theorem dX3_owes_40 : decode cX3_owes 40 = .ok (.iconst 0, 1) := by decide +kernel
theorem dX3_owes_41 : decode cX3_owes 41 = .ok (.iadd, 1) := by decide +kernel
theorem dX3_owes_42 : decode cX3_owes 42 = .ok (.istore_n 2, 1) := by decide +kernel
theorem dX3_owes_43 : decode cX3_owes 43 = .ok (.iinc 3 1, 3) := by decide +kernel
theorem dX3_owes_46 : decode cX3_owes 46 = .ok (.goto (-42), 3) := by decide +kernel
theorem dX3_owes_49 : decode cX3_owes 49 = .ok (.iload_n 2, 1) := by decide +kernel
theorem dX3_owes_50 : decode cX3_owes 50 = .ok (.ireturn, 1) := by decide +kernel
set_option maxRecDepth 20000 in
theorem ggX3_houseNow_X3_number : GoodIn wsX3_houseNow wsX3_number := goodIn_r _ [8, 2, 9, 10, 11, 7, 12, 1, 35, 36, 37, 38, 39, 40, 41, 42, 43, 44, 45, 46, 47, 48, 49, 50, 51, 52, 53, 54, 55, 56, 57, 58, 59, 60, 61, 62, 63, 64, 65, 66] (by decide +kernel) (by decide +kernel)
set_option maxRecDepth 20000 in
theorem gX3_houseNow_X3_number : GoodIn wsX3_houseNow (wsV RX3 107 RX3 yX3_number wsX3_number) := goodIn_app (goodIn_of _ (by decide +kernel)) ggX3_houseNow_X3_number
set_option maxRecDepth 20000 in
theorem ggX3_houseNow_X3_owes : GoodIn wsX3_houseNow wsX3_owes := goodIn_r _ [16, 17, 18, 19, 20, 21, 22, 23, 7, 24, 25, 26, 27, 28, 29, 2, 30, 9, 10, 11, 12, 1, 35, 36, 37, 38, 39, 40, 41, 42, 43, 44, 45, 46, 47, 48, 49, 50, 51, 52, 53, 54, 55, 56, 57, 58, 59, 60, 61, 62, 63, 64, 65, 66] (by decide +kernel) (by decide +kernel)
set_option maxRecDepth 20000 in
theorem gX3_houseNow_X3_owes : GoodIn wsX3_houseNow (wsV RX3 119 RX3 yX3_owes wsX3_owes) := goodIn_app (goodIn_of _ (by decide +kernel)) ggX3_houseNow_X3_owes
set_option maxRecDepth 20000 in
theorem ggX3_houseNow_X3_orderOf : GoodIn wsX3_houseNow wsX3_orderOf := goodIn_r _ [34, 25, 4, 5, 6, 7, 8, 2, 9, 10, 11, 12, 1, 35, 36, 37, 38, 39, 40, 41, 42, 43, 44, 45, 46, 47, 48, 49, 50, 51, 52, 53, 54, 55, 56, 57, 58, 59, 60, 61, 62, 63, 64, 65, 66] (by decide +kernel) (by decide +kernel)
set_option maxRecDepth 20000 in
theorem gX3_houseNow_X3_orderOf : GoodIn wsX3_houseNow (wsV RX3 110 RX3 yX3_orderOf wsX3_orderOf) := goodIn_app (goodIn_of _ (by decide +kernel)) ggX3_houseNow_X3_orderOf
theorem dX3_houseNow_0 : decode cX3_houseNow 0 = .ok (.iload_n 2, 1) := by decide +kernel
theorem dX3_houseNow_1 : decode cX3_houseNow 1 = .ok (.tableswitch 68 0 4 #[35, 42, 49, 55, 62], 35) := by decide +kernel
theorem dX3_houseNow_36 : decode cX3_houseNow 36 = .ok (.aload_n 0, 1) := by decide +kernel
theorem dX3_houseNow_37 : decode cX3_houseNow 37 = .ok (.getfield 7, 3) := by decide +kernel
theorem dX3_houseNow_40 : decode cX3_houseNow 40 = .ok (.iload_n 1, 1) := by decide +kernel
theorem dX3_houseNow_41 : decode cX3_houseNow 41 = .ok (.iaload, 1) := by decide +kernel
theorem dX3_houseNow_42 : decode cX3_houseNow 42 = .ok (.ireturn, 1) := by decide +kernel
theorem dX3_houseNow_43 : decode cX3_houseNow 43 = .ok (.aload_n 0, 1) := by decide +kernel
theorem dX3_houseNow_44 : decode cX3_houseNow 44 = .ok (.getfield 13, 3) := by decide +kernel
theorem dX3_houseNow_47 : decode cX3_houseNow 47 = .ok (.iload_n 1, 1) := by decide +kernel
theorem dX3_houseNow_48 : decode cX3_houseNow 48 = .ok (.iaload, 1) := by decide +kernel
theorem dX3_houseNow_49 : decode cX3_houseNow 49 = .ok (.ireturn, 1) := by decide +kernel
theorem dX3_houseNow_50 : decode cX3_houseNow 50 = .ok (.aload_n 0, 1) := by decide +kernel
theorem dX3_houseNow_51 : decode cX3_houseNow 51 = .ok (.iload_n 1, 1) := by decide +kernel
theorem dX3_houseNow_52 : decode cX3_houseNow 52 = .ok (.invokevirtual 107, 3) := by decide +kernel
theorem dX3_houseNow_55 : decode cX3_houseNow 55 = .ok (.ireturn, 1) := by decide +kernel
theorem dX3_houseNow_56 : decode cX3_houseNow 56 = .ok (.aload_n 0, 1) := by decide +kernel
theorem dX3_houseNow_57 : decode cX3_houseNow 57 = .ok (.getfield 16, 3) := by decide +kernel
theorem dX3_houseNow_60 : decode cX3_houseNow 60 = .ok (.iload_n 1, 1) := by decide +kernel
theorem dX3_houseNow_61 : decode cX3_houseNow 61 = .ok (.iaload, 1) := by decide +kernel
theorem dX3_houseNow_62 : decode cX3_houseNow 62 = .ok (.ireturn, 1) := by decide +kernel
theorem dX3_houseNow_63 : decode cX3_houseNow 63 = .ok (.aload_n 0, 1) := by decide +kernel
theorem dX3_houseNow_64 : decode cX3_houseNow 64 = .ok (.iload_n 1, 1) := by decide +kernel
theorem dX3_houseNow_65 : decode cX3_houseNow 65 = .ok (.invokevirtual 119, 3) := by decide +kernel
theorem dX3_houseNow_68 : decode cX3_houseNow 68 = .ok (.ireturn, 1) := by decide +kernel
theorem dX3_houseNow_69 : decode cX3_houseNow 69 = .ok (.aload_n 0, 1) := by decide +kernel
theorem dX3_houseNow_70 : decode cX3_houseNow 70 = .ok (.iload_n 1, 1) := by decide +kernel
theorem dX3_houseNow_71 : decode cX3_houseNow 71 = .ok (.invokevirtual 110, 3) := by decide +kernel
theorem dX3_houseNow_74 : decode cX3_houseNow 74 = .ok (.ireturn, 1) := by decide +kernel
set_option maxRecDepth 20000 in
theorem ggX3_about_X3_isHouse : GoodIn wsX3_about wsX3_isHouse := goodIn_r _ [5, 6, 7, 8, 4, 9, 46, 47, 48, 49, 50, 51, 52, 53, 54, 55, 56, 57, 58, 59, 60, 61, 62, 63, 64, 65, 66, 67, 68, 69, 70, 71, 72, 73, 74, 75, 76, 77] (by decide +kernel) (by decide +kernel)
set_option maxRecDepth 20000 in
theorem gX3_about_X3_isHouse : GoodIn wsX3_about (wsV RX3 122 RX3 yX3_isHouse wsX3_isHouse) := goodIn_app (goodIn_of _ (by decide +kernel)) ggX3_about_X3_isHouse
set_option maxRecDepth 20000 in
theorem ggX3_about_X3_within : GoodIn wsX3_about wsX3_within := goodIn_r _ [9] (by decide +kernel) (by decide +kernel)
set_option maxRecDepth 20000 in
theorem gX3_about_X3_within : GoodIn wsX3_about (va_wsS RX3 62 yX3_within wsX3_within) := goodIn_app (goodIn_of _ (by decide +kernel)) ggX3_about_X3_within
set_option maxRecDepth 20000 in
theorem ggX3_about_X3_houseNow : GoodIn wsX3_about wsX3_houseNow := goodIn_r _ [13, 14, 15, 16, 17, 18, 19, 4, 20, 21, 22, 23, 24, 25, 26, 27, 28, 29, 30, 31, 32, 33, 34, 35, 36, 6, 37, 38, 39, 40, 41, 42, 43, 44, 45, 46, 47, 48, 49, 50, 51, 52, 53, 54, 55, 56, 57, 58, 59, 60, 61, 62, 63, 64, 65, 66, 67, 68, 69, 70, 71, 72, 73, 74, 75, 76, 77] (by decide +kernel) (by decide +kernel)
set_option maxRecDepth 20000 in
theorem gX3_about_X3_houseNow : GoodIn wsX3_about (wsV RX3 125 RX3 yX3_houseNow wsX3_houseNow) := goodIn_app (goodIn_of _ (by decide +kernel)) ggX3_about_X3_houseNow
theorem dX3_about_0 : decode cX3_about 0 = .ok (.aload_n 0, 1) := by decide +kernel
theorem dX3_about_1 : decode cX3_about 1 = .ok (.iload_n 1, 1) := by decide +kernel
theorem dX3_about_2 : decode cX3_about 2 = .ok (.invokevirtual 122, 3) := by decide +kernel
theorem dX3_about_5 : decode cX3_about 5 = .ok (.ifCond .ne 8, 3) := by decide +kernel
theorem dX3_about_8 : decode cX3_about 8 = .ok (.bipush (-101), 2) := by decide +kernel
theorem dX3_about_10 : decode cX3_about 10 = .ok (.goto 23, 3) := by decide +kernel
theorem dX3_about_13 : decode cX3_about 13 = .ok (.iload_n 2, 1) := by decide +kernel
theorem dX3_about_14 : decode cX3_about 14 = .ok (.iconst 0, 1) := by decide +kernel
theorem dX3_about_15 : decode cX3_about 15 = .ok (.iconst 5, 1) := by decide +kernel
theorem dX3_about_16 : decode cX3_about 16 = .ok (.invokestatic 62, 3) := by decide +kernel
theorem dX3_about_19 : decode cX3_about 19 = .ok (.ifCond .eq 12, 3) := by decide +kernel
theorem dX3_about_22 : decode cX3_about 22 = .ok (.aload_n 0, 1) := by decide +kernel
theorem dX3_about_23 : decode cX3_about 23 = .ok (.iload_n 1, 1) := by decide +kernel
theorem dX3_about_24 : decode cX3_about 24 = .ok (.iload_n 2, 1) := by decide +kernel
theorem dX3_about_25 : decode cX3_about 25 = .ok (.invokevirtual 125, 3) := by decide +kernel
theorem dX3_about_28 : decode cX3_about 28 = .ok (.goto 5, 3) := by decide +kernel
theorem dX3_about_31 : decode cX3_about 31 = .ok (.bipush (-102), 2) := by decide +kernel
theorem dX3_about_33 : decode cX3_about 33 = .ok (.ireturn, 1) := by decide +kernel
set_option maxRecDepth 20000 in
theorem ggX3_as_X3_isHouse : GoodIn wsX3_as wsX3_isHouse := goodIn_r _ [6, 7, 8, 9, 5, 10, 11, 12, 13, 14, 15, 16, 17, 18, 19, 20, 21, 22, 23, 24, 25, 26, 27, 28, 29, 30, 31, 32, 33, 34, 35, 36, 37, 38, 39, 40, 41, 42] (by decide +kernel) (by decide +kernel)
set_option maxRecDepth 20000 in
theorem gX3_as_X3_isHouse : GoodIn wsX3_as (wsV RX3 122 RX3 yX3_isHouse wsX3_isHouse) := goodIn_app (goodIn_of _ (by decide +kernel)) ggX3_as_X3_isHouse
set_option maxRecDepth 20000 in
theorem ggX3_as_X3_within : GoodIn wsX3_as wsX3_within := goodIn_r _ [10] (by decide +kernel) (by decide +kernel)
set_option maxRecDepth 20000 in
theorem gX3_as_X3_within : GoodIn wsX3_as (va_wsS RX3 62 yX3_within wsX3_within) := goodIn_app (goodIn_of _ (by decide +kernel)) ggX3_as_X3_within
theorem dX3_as_0 : decode cX3_as 0 = .ok (.aload_n 0, 1) := by decide +kernel
theorem dX3_as_1 : decode cX3_as 1 = .ok (.iload_n 1, 1) := by decide +kernel
theorem dX3_as_2 : decode cX3_as 2 = .ok (.invokevirtual 122, 3) := by decide +kernel
theorem dX3_as_5 : decode cX3_as 5 = .ok (.ifCond .ne 6, 3) := by decide +kernel
theorem dX3_as_8 : decode cX3_as 8 = .ok (.bipush (-101), 2) := by decide +kernel
theorem dX3_as_10 : decode cX3_as 10 = .ok (.ireturn, 1) := by decide +kernel
theorem dX3_as_11 : decode cX3_as 11 = .ok (.iload_n 2, 1) := by decide +kernel
theorem dX3_as_12 : decode cX3_as 12 = .ok (.iconst 0, 1) := by decide +kernel
theorem dX3_as_13 : decode cX3_as 13 = .ok (.iconst 4, 1) := by decide +kernel
theorem dX3_as_14 : decode cX3_as 14 = .ok (.invokestatic 62, 3) := by decide +kernel
theorem dX3_as_17 : decode cX3_as 17 = .ok (.ifCond .ne 6, 3) := by decide +kernel
theorem dX3_as_20 : decode cX3_as 20 = .ok (.bipush (-102), 2) := by decide +kernel
theorem dX3_as_22 : decode cX3_as 22 = .ok (.ireturn, 1) := by decide +kernel
theorem dX3_as_23 : decode cX3_as 23 = .ok (.aload_n 0, 1) := by decide +kernel
theorem dX3_as_24 : decode cX3_as 24 = .ok (.getfield 7, 3) := by decide +kernel
theorem dX3_as_27 : decode cX3_as 27 = .ok (.iload_n 1, 1) := by decide +kernel
theorem dX3_as_28 : decode cX3_as 28 = .ok (.iaload, 1) := by decide +kernel
theorem dX3_as_29 : decode cX3_as 29 = .ok (.istore_n 3, 1) := by decide +kernel
theorem dX3_as_30 : decode cX3_as 30 = .ok (.iload_n 2, 1) := by decide +kernel
theorem dX3_as_31 : decode cX3_as 31 = .ok (.ifCond .eq 18, 3) := by decide +kernel
theorem dX3_as_34 : decode cX3_as 34 = .ok (.iload_n 3, 1) := by decide +kernel
theorem dX3_as_35 : decode cX3_as 35 = .ok (.iload_n 2, 1) := by decide +kernel
theorem dX3_as_36 : decode cX3_as 36 = .ok (.if_icmp .eq 13, 3) := by decide +kernel
theorem dX3_as_39 : decode cX3_as 39 = .ok (.iload_n 2, 1) := by decide +kernel
theorem dX3_as_40 : decode cX3_as 40 = .ok (.iconst 2, 1) := by decide +kernel
theorem dX3_as_41 : decode cX3_as 41 = .ok (.if_icmp .ne 12, 3) := by decide +kernel
theorem dX3_as_44 : decode cX3_as 44 = .ok (.iload_n 3, 1) := by decide +kernel
theorem dX3_as_45 : decode cX3_as 45 = .ok (.iconst 4, 1) := by decide +kernel
theorem dX3_as_46 : decode cX3_as 46 = .ok (.if_icmp .ne 7, 3) := by decide +kernel
theorem dX3_as_49 : decode cX3_as 49 = .ok (.iload_n 1, 1) := by decide +kernel
theorem dX3_as_50 : decode cX3_as 50 = .ok (.goto 4, 3) := by decide +kernel
theorem dX3_as_53 : decode cX3_as 53 = .ok (.iconst (-1), 1) := by decide +kernel
theorem dX3_as_54 : decode cX3_as 54 = .ok (.ireturn, 1) := by decide +kernel
set_option maxRecDepth 20000 in
theorem ggX3_birth_X3_isHouse : GoodIn wsX3_birth wsX3_isHouse := goodIn_r _ [7, 8, 9, 10, 6, 11, 26, 27, 28, 29, 30, 31, 32, 33, 34, 35, 36, 37, 38, 39, 40, 41, 42, 43, 44, 45, 46, 47, 48, 49, 50, 51, 52, 53, 54, 55, 56, 57] (by decide +kernel) (by decide +kernel)
set_option maxRecDepth 20000 in
theorem gX3_birth_X3_isHouse : GoodIn wsX3_birth (wsV RX3 122 RX3 yX3_isHouse wsX3_isHouse) := goodIn_app (goodIn_of _ (by decide +kernel)) ggX3_birth_X3_isHouse
set_option maxRecDepth 20000 in
theorem ggX3_birth_X3_mayBirth : GoodIn wsX3_birth wsX3_mayBirth := goodIn_r _ [15, 16, 26, 27, 28, 29, 30, 31, 32, 33, 34, 35, 36, 37, 38, 39, 40, 41, 42, 43, 44, 45, 46, 47, 48, 49, 50, 51, 52, 53, 54, 55, 56, 57] (by decide +kernel) (by decide +kernel)
set_option maxRecDepth 20000 in
theorem gX3_birth_X3_mayBirth : GoodIn wsX3_birth (wsV RX3 128 RX3 yX3_mayBirth wsX3_mayBirth) := goodIn_app (goodIn_of _ (by decide +kernel)) ggX3_birth_X3_mayBirth
set_option maxRecDepth 20000 in
theorem ggX3_birth_X3_ageNone : GoodIn wsX3_birth wsX3_ageNone := goodIn_r _ [20, 21, 22, 23, 24, 6, 25, 8, 16, 26, 27, 28, 29, 30, 31, 32, 33, 34, 35, 36, 37, 38, 39, 40, 41, 42, 43, 44, 45, 46, 47, 48, 49, 50, 51, 52, 53, 54, 55, 56, 57] (by decide +kernel) (by decide +kernel)
set_option maxRecDepth 20000 in
theorem gX3_birth_X3_ageNone : GoodIn wsX3_birth (wsV RX3 131 RX3 yX3_ageNone wsX3_ageNone) := goodIn_app (goodIn_of _ (by decide +kernel)) ggX3_birth_X3_ageNone
set_option maxRecDepth 20000 in
theorem ggX3_birth_X3_lends : GoodIn wsX3_birth wsX3_lends := goodIn_r _ [25, 8, 16, 26, 27, 28, 29, 30, 31, 32, 33, 34, 35, 36, 37, 38, 39, 40, 41, 42, 43, 44, 45, 46, 47, 48, 49, 50, 51, 52, 53, 54, 55, 56, 57] (by decide +kernel) (by decide +kernel)
set_option maxRecDepth 20000 in
theorem gX3_birth_X3_lends : GoodIn wsX3_birth (wsV RX3 104 RX3 yX3_lends wsX3_lends) := goodIn_app (goodIn_of _ (by decide +kernel)) ggX3_birth_X3_lends
theorem dX3_birth_0 : decode cX3_birth 0 = .ok (.aload_n 0, 1) := by decide +kernel
theorem dX3_birth_1 : decode cX3_birth 1 = .ok (.iload_n 1, 1) := by decide +kernel
theorem dX3_birth_2 : decode cX3_birth 2 = .ok (.invokevirtual 122, 3) := by decide +kernel
theorem dX3_birth_5 : decode cX3_birth 5 = .ok (.ifCond .ne 6, 3) := by decide +kernel
theorem dX3_birth_8 : decode cX3_birth 8 = .ok (.bipush (-101), 2) := by decide +kernel
theorem dX3_birth_10 : decode cX3_birth 10 = .ok (.ireturn, 1) := by decide +kernel
theorem dX3_birth_11 : decode cX3_birth 11 = .ok (.aload_n 0, 1) := by decide +kernel
theorem dX3_birth_12 : decode cX3_birth 12 = .ok (.iload_n 1, 1) := by decide +kernel
theorem dX3_birth_13 : decode cX3_birth 13 = .ok (.invokevirtual 128, 3) := by decide +kernel
theorem dX3_birth_16 : decode cX3_birth 16 = .ok (.ifCond .ne 6, 3) := by decide +kernel
theorem dX3_birth_19 : decode cX3_birth 19 = .ok (.bipush (-103), 2) := by decide +kernel
theorem dX3_birth_21 : decode cX3_birth 21 = .ok (.ireturn, 1) := by decide +kernel
theorem dX3_birth_22 : decode cX3_birth 22 = .ok (.aload_n 0, 1) := by decide +kernel
theorem dX3_birth_23 : decode cX3_birth 23 = .ok (.iload_n 1, 1) := by decide +kernel
theorem dX3_birth_24 : decode cX3_birth 24 = .ok (.invokevirtual 131, 3) := by decide +kernel
theorem dX3_birth_27 : decode cX3_birth 27 = .ok (.aload_n 0, 1) := by decide +kernel
theorem dX3_birth_28 : decode cX3_birth 28 = .ok (.getfield 16, 3) := by decide +kernel
theorem dX3_birth_31 : decode cX3_birth 31 = .ok (.iload_n 1, 1) := by decide +kernel
theorem dX3_birth_32 : decode cX3_birth 32 = .ok (.dup2, 1) := by decide +kernel
theorem dX3_birth_33 : decode cX3_birth 33 = .ok (.iaload, 1) := by decide +kernel
theorem dX3_birth_34 : decode cX3_birth 34 = .ok (.iconst 1, 1) := by decide +kernel
theorem dX3_birth_35 : decode cX3_birth 35 = .ok (.iadd, 1) := by decide +kernel
theorem dX3_birth_36 : decode cX3_birth 36 = .ok (.iastore, 1) := by decide +kernel
theorem dX3_birth_37 : decode cX3_birth 37 = .ok (.aload_n 0, 1) := by decide +kernel
theorem dX3_birth_38 : decode cX3_birth 38 = .ok (.dup, 1) := by decide +kernel
theorem dX3_birth_39 : decode cX3_birth 39 = .ok (.getfield 91, 3) := by decide +kernel
theorem dX3_birth_42 : decode cX3_birth 42 = .ok (.iconst 1, 1) := by decide +kernel
theorem dX3_birth_43 : decode cX3_birth 43 = .ok (.iadd, 1) := by decide +kernel
theorem dX3_birth_44 : decode cX3_birth 44 = .ok (.putfield 91, 3) := by decide +kernel
theorem dX3_birth_47 : decode cX3_birth 47 = .ok (.aload_n 0, 1) := by decide +kernel
theorem dX3_birth_48 : decode cX3_birth 48 = .ok (.iload_n 1, 1) := by decide +kernel
theorem dX3_birth_49 : decode cX3_birth 49 = .ok (.invokevirtual 104, 3) := by decide +kernel
theorem dX3_birth_52 : decode cX3_birth 52 = .ok (.ifCond .eq 17, 3) := by decide +kernel
theorem dX3_birth_55 : decode cX3_birth 55 = .ok (.aload_n 0, 1) := by decide +kernel
theorem dX3_birth_56 : decode cX3_birth 56 = .ok (.getfield 16, 3) := by decide +kernel
theorem dX3_birth_59 : decode cX3_birth 59 = .ok (.iload_n 1, 1) := by decide +kernel
theorem dX3_birth_60 : decode cX3_birth 60 = .ok (.iconst 1, 1) := by decide +kernel
theorem dX3_birth_61 : decode cX3_birth 61 = .ok (.iadd, 1) := by decide +kernel
theorem dX3_birth_62 : decode cX3_birth 62 = .ok (.dup2, 1) := by decide +kernel
theorem dX3_birth_63 : decode cX3_birth 63 = .ok (.iaload, 1) := by decide +kernel
theorem dX3_birth_64 : decode cX3_birth 64 = .ok (.iconst 1, 1) := by decide +kernel
theorem dX3_birth_65 : decode cX3_birth 65 = .ok (.iadd, 1) := by decide +kernel
theorem dX3_birth_66 : decode cX3_birth 66 = .ok (.iastore, 1) := by decide +kernel
theorem dX3_birth_67 : decode cX3_birth 67 = .ok (.iconst 2, 1) := by decide +kernel
theorem dX3_birth_68 : decode cX3_birth 68 = .ok (.ireturn, 1) := by decide +kernel
theorem dX3_birth_69 : decode cX3_birth 69 = .ok (.iconst 1, 1) := by decide +kernel
theorem dX3_birth_70 : decode cX3_birth 70 = .ok (.ireturn, 1) := by decide +kernel
set_option maxRecDepth 20000 in
theorem ggX3_day_X3_ageMore : GoodIn wsX3_day wsX3_ageMore := goodIn_r _ [9, 1, 4, 10, 11, 12, 13, 14, 15, 16, 17, 18, 19, 20, 21, 22, 23, 24, 25, 26, 27, 28, 29, 30, 31, 32, 33, 34, 35, 36, 37, 38, 39, 40, 41, 42] (by decide +kernel) (by decide +kernel)
set_option maxRecDepth 20000 in
theorem gX3_day_X3_ageMore : GoodIn wsX3_day (wsV RX3 135 RX3 yX3_ageMore wsX3_ageMore) := goodIn_app (goodIn_of _ (by decide +kernel)) ggX3_day_X3_ageMore
theorem dX3_day_0 : decode cX3_day 0 = .ok (.aload_n 0, 1) := by decide +kernel
theorem dX3_day_1 : decode cX3_day 1 = .ok (.getfield 82, 3) := by decide +kernel
theorem dX3_day_4 : decode cX3_day 4 = .ok (.ifCond .ne 6, 3) := by decide +kernel
theorem dX3_day_7 : decode cX3_day 7 = .ok (.bipush (-103), 2) := by decide +kernel
theorem dX3_day_9 : decode cX3_day 9 = .ok (.ireturn, 1) := by decide +kernel
theorem dX3_day_10 : decode cX3_day 10 = .ok (.aload_n 0, 1) := by decide +kernel
theorem dX3_day_11 : decode cX3_day 11 = .ok (.getfield 88, 3) := by decide +kernel
theorem dX3_day_14 : decode cX3_day 14 = .ok (.bipush 30, 2) := by decide +kernel
theorem dX3_day_16 : decode cX3_day 16 = .ok (.if_icmp .ne 6, 3) := by decide +kernel
theorem dX3_day_19 : decode cX3_day 19 = .ok (.bipush (-104), 2) := by decide +kernel
theorem dX3_day_21 : decode cX3_day 21 = .ok (.ireturn, 1) := by decide +kernel
theorem dX3_day_22 : decode cX3_day 22 = .ok (.iconst 0, 1) := by decide +kernel
theorem dX3_day_23 : decode cX3_day 23 = .ok (.istore_n 1, 1) := by decide +kernel
theorem dX3_day_24 : decode cX3_day 24 = .ok (.iload_n 1, 1) := by decide +kernel
theorem dX3_day_25 : decode cX3_day 25 = .ok (.aload_n 0, 1) := by decide +kernel
theorem dX3_day_26 : decode cX3_day 26 = .ok (.getfield 82, 3) := by decide +kernel
theorem dX3_day_29 : decode cX3_day 29 = .ok (.if_icmp .ge 29, 3) := by decide +kernel
theorem dX3_day_32 : decode cX3_day 32 = .ok (.aload_n 0, 1) := by decide +kernel
theorem dX3_day_33 : decode cX3_day 33 = .ok (.getfield 19, 3) := by decide +kernel
theorem dX3_day_36 : decode cX3_day 36 = .ok (.bipush 6, 2) := by decide +kernel
theorem dX3_day_38 : decode cX3_day 38 = .ok (.aload_n 0, 1) := by decide +kernel
theorem dX3_day_39 : decode cX3_day 39 = .ok (.getfield 88, 3) := by decide +kernel
theorem dX3_day_42 : decode cX3_day 42 = .ok (.imul, 1) := by decide +kernel
theorem dX3_day_43 : decode cX3_day 43 = .ok (.iload_n 1, 1) := by decide +kernel
theorem dX3_day_44 : decode cX3_day 44 = .ok (.iadd, 1) := by decide +kernel
theorem dX3_day_45 : decode cX3_day 45 = .ok (.aload_n 0, 1) := by decide +kernel
theorem dX3_day_46 : decode cX3_day 46 = .ok (.getfield 13, 3) := by decide +kernel
theorem dX3_day_49 : decode cX3_day 49 = .ok (.iload_n 1, 1) := by decide +kernel
theorem dX3_day_50 : decode cX3_day 50 = .ok (.iaload, 1) := by decide +kernel
theorem dX3_day_51 : decode cX3_day 51 = .ok (.iastore, 1) := by decide +kernel
theorem dX3_day_52 : decode cX3_day 52 = .ok (.iinc 1 1, 3) := by decide +kernel
theorem dX3_day_55 : decode cX3_day 55 = .ok (.goto (-31), 3) := by decide +kernel
theorem dX3_day_58 : decode cX3_day 58 = .ok (.aload_n 0, 1) := by decide +kernel
theorem dX3_day_59 : decode cX3_day 59 = .ok (.invokevirtual 135, 3) := by decide +kernel
theorem dX3_day_62 : decode cX3_day 62 = .ok (.aload_n 0, 1) := by decide +kernel
theorem dX3_day_63 : decode cX3_day 63 = .ok (.dup, 1) := by decide +kernel
theorem dX3_day_64 : decode cX3_day 64 = .ok (.getfield 88, 3) := by decide +kernel
theorem dX3_day_67 : decode cX3_day 67 = .ok (.iconst 1, 1) := by decide +kernel
theorem dX3_day_68 : decode cX3_day 68 = .ok (.iadd, 1) := by decide +kernel
theorem dX3_day_69 : decode cX3_day 69 = .ok (.putfield 88, 3) := by decide +kernel
theorem dX3_day_72 : decode cX3_day 72 = .ok (.aload_n 0, 1) := by decide +kernel
theorem dX3_day_73 : decode cX3_day 73 = .ok (.getfield 88, 3) := by decide +kernel
theorem dX3_day_76 : decode cX3_day 76 = .ok (.ireturn, 1) := by decide +kernel
set_option maxRecDepth 20000 in
theorem ggX3_then_X3_isHouse : GoodIn wsX3_then wsX3_isHouse := goodIn_r _ [5, 6, 7, 8, 4, 9, 26, 27, 28, 29, 30, 31, 32, 33, 34, 35, 36, 37, 38, 39, 40, 41, 42, 43, 44, 45, 46, 47, 48, 49, 50, 51, 52, 53, 54, 55, 56, 57] (by decide +kernel) (by decide +kernel)
set_option maxRecDepth 20000 in
theorem gX3_then_X3_isHouse : GoodIn wsX3_then (wsV RX3 122 RX3 yX3_isHouse wsX3_isHouse) := goodIn_app (goodIn_of _ (by decide +kernel)) ggX3_then_X3_isHouse
set_option maxRecDepth 20000 in
theorem ggX3_then_X3_isDay : GoodIn wsX3_then wsX3_isDay := goodIn_r _ [13, 6, 14, 7, 8, 4, 9, 26, 27, 28, 29, 30, 31, 32, 33, 34, 35, 36, 37, 38, 39, 40, 41, 42, 43, 44, 45, 46, 47, 48, 49, 50, 51, 52, 53, 54, 55, 56, 57] (by decide +kernel) (by decide +kernel)
set_option maxRecDepth 20000 in
theorem gX3_then_X3_isDay : GoodIn wsX3_then (wsV RX3 138 RX3 yX3_isDay wsX3_isDay) := goodIn_app (goodIn_of _ (by decide +kernel)) ggX3_then_X3_isDay
set_option maxRecDepth 20000 in
theorem ggX3_then_X3_numberOn : GoodIn wsX3_then wsX3_numberOn := goodIn_r _ [18, 14, 19, 20, 21, 22, 23, 4, 24, 25, 26, 27, 28, 29, 30, 31, 32, 33, 34, 35, 36, 37, 38, 39, 40, 41, 42, 43, 44, 45, 46, 47, 48, 49, 50, 51, 52, 53, 54, 55, 56, 57] (by decide +kernel) (by decide +kernel)
set_option maxRecDepth 20000 in
theorem gX3_then_X3_numberOn : GoodIn wsX3_then (wsV RX3 113 RX3 yX3_numberOn wsX3_numberOn) := goodIn_app (goodIn_of _ (by decide +kernel)) ggX3_then_X3_numberOn
theorem dX3_then_0 : decode cX3_then 0 = .ok (.aload_n 0, 1) := by decide +kernel
theorem dX3_then_1 : decode cX3_then 1 = .ok (.iload_n 1, 1) := by decide +kernel
theorem dX3_then_2 : decode cX3_then 2 = .ok (.invokevirtual 122, 3) := by decide +kernel
theorem dX3_then_5 : decode cX3_then 5 = .ok (.ifCond .eq 20, 3) := by decide +kernel
theorem dX3_then_8 : decode cX3_then 8 = .ok (.aload_n 0, 1) := by decide +kernel
theorem dX3_then_9 : decode cX3_then 9 = .ok (.iload_n 2, 1) := by decide +kernel
theorem dX3_then_10 : decode cX3_then 10 = .ok (.invokevirtual 138, 3) := by decide +kernel
theorem dX3_then_13 : decode cX3_then 13 = .ok (.ifCond .eq 12, 3) := by decide +kernel
theorem dX3_then_16 : decode cX3_then 16 = .ok (.aload_n 0, 1) := by decide +kernel
theorem dX3_then_17 : decode cX3_then 17 = .ok (.iload_n 1, 1) := by decide +kernel
theorem dX3_then_18 : decode cX3_then 18 = .ok (.iload_n 2, 1) := by decide +kernel
theorem dX3_then_19 : decode cX3_then 19 = .ok (.invokevirtual 113, 3) := by decide +kernel
theorem dX3_then_22 : decode cX3_then 22 = .ok (.goto 5, 3) := by decide +kernel
theorem dX3_then_25 : decode cX3_then 25 = .ok (.bipush (-101), 2) := by decide +kernel
theorem dX3_then_27 : decode cX3_then 27 = .ok (.ireturn, 1) := by decide +kernel
set_option maxRecDepth 20000 in
theorem ggX3_goesTo_X3_isDay : GoodIn wsX3_goesTo wsX3_isDay := goodIn_r _ [5, 6, 7, 8, 9, 4, 10, 26, 27, 28, 29, 30, 31, 32, 33, 34, 35, 36, 37, 38, 39, 40, 41, 42, 43, 44, 45, 46, 47, 48, 49, 50, 51, 52, 53, 54, 55, 56, 57] (by decide +kernel) (by decide +kernel)
set_option maxRecDepth 20000 in
theorem gX3_goesTo_X3_isDay : GoodIn wsX3_goesTo (wsV RX3 138 RX3 yX3_isDay wsX3_isDay) := goodIn_app (goodIn_of _ (by decide +kernel)) ggX3_goesTo_X3_isDay
set_option maxRecDepth 20000 in
theorem ggX3_goesTo_X3_houseOf : GoodIn wsX3_goesTo wsX3_houseOf := goodIn_r _ [14, 6, 15, 16, 17, 4, 18, 7, 19, 20, 21, 22, 23, 24, 25, 26, 27, 28, 29, 30, 31, 32, 33, 34, 35, 36, 37, 38, 39, 40, 41, 42, 43, 44, 45, 46, 47, 48, 49, 50, 51, 52, 53, 54, 55, 56, 57] (by decide +kernel) (by decide +kernel)
set_option maxRecDepth 20000 in
theorem gX3_goesTo_X3_houseOf : GoodIn wsX3_goesTo (wsV RX3 116 RX3 yX3_houseOf wsX3_houseOf) := goodIn_app (goodIn_of _ (by decide +kernel)) ggX3_goesTo_X3_houseOf
theorem dX3_goesTo_0 : decode cX3_goesTo 0 = .ok (.aload_n 0, 1) := by decide +kernel
theorem dX3_goesTo_1 : decode cX3_goesTo 1 = .ok (.iload_n 2, 1) := by decide +kernel
theorem dX3_goesTo_2 : decode cX3_goesTo 2 = .ok (.invokevirtual 138, 3) := by decide +kernel
theorem dX3_goesTo_5 : decode cX3_goesTo 5 = .ok (.ifCond .eq 12, 3) := by decide +kernel
theorem dX3_goesTo_8 : decode cX3_goesTo 8 = .ok (.aload_n 0, 1) := by decide +kernel
theorem dX3_goesTo_9 : decode cX3_goesTo 9 = .ok (.iload_n 1, 1) := by decide +kernel
theorem dX3_goesTo_10 : decode cX3_goesTo 10 = .ok (.iload_n 2, 1) := by decide +kernel
theorem dX3_goesTo_11 : decode cX3_goesTo 11 = .ok (.invokevirtual 116, 3) := by decide +kernel
theorem dX3_goesTo_14 : decode cX3_goesTo 14 = .ok (.goto 5, 3) := by decide +kernel
theorem dX3_goesTo_17 : decode cX3_goesTo 17 = .ok (.bipush (-101), 2) := by decide +kernel
theorem dX3_goesTo_19 : decode cX3_goesTo 19 = .ok (.ireturn, 1) := by decide +kernel
set_option maxRecDepth 20000 in
theorem ggX3_walk_X3_walkNow : GoodIn wsX3_walk wsX3_walkNow := goodIn_r _ [6, 1, 7, 8, 9, 5, 10, 11, 12, 13, 14, 15, 16, 17, 18, 19, 20, 21, 22, 23, 24, 25, 26, 27, 28, 29, 30, 31, 32, 33, 34, 35, 36, 37, 38, 39, 40, 41, 42, 43, 44, 45, 46, 47, 48, 49, 50, 51, 52] (by decide +kernel) (by decide +kernel)
set_option maxRecDepth 20000 in
theorem gX3_walk_X3_walkNow : GoodIn wsX3_walk (wsV RX3 141 RX3 yX3_walkNow wsX3_walkNow) := goodIn_app (goodIn_of _ (by decide +kernel)) ggX3_walk_X3_walkNow
theorem dX3_walk_0 : decode cX3_walk 0 = .ok (.aload_n 0, 1) := by decide +kernel
theorem dX3_walk_1 : decode cX3_walk 1 = .ok (.getfield 82, 3) := by decide +kernel
theorem dX3_walk_4 : decode cX3_walk 4 = .ok (.ifCond .ne 8, 3) := by decide +kernel
theorem dX3_walk_7 : decode cX3_walk 7 = .ok (.bipush (-103), 2) := by decide +kernel
theorem dX3_walk_9 : decode cX3_walk 9 = .ok (.goto 7, 3) := by decide +kernel
theorem dX3_walk_12 : decode cX3_walk 12 = .ok (.aload_n 0, 1) := by decide +kernel
theorem dX3_walk_13 : decode cX3_walk 13 = .ok (.invokevirtual 141, 3) := by decide +kernel
theorem dX3_walk_16 : decode cX3_walk 16 = .ok (.ireturn, 1) := by decide +kernel
set_option maxRecDepth 20000 in
theorem ggX3_debt_X3_within : GoodIn wsX3_debt wsX3_within := goodIn_r _ [8] (by decide +kernel) (by decide +kernel)
set_option maxRecDepth 20000 in
theorem gX3_debt_X3_within : GoodIn wsX3_debt (va_wsS RX3 62 yX3_within wsX3_within) := goodIn_app (goodIn_of _ (by decide +kernel)) ggX3_debt_X3_within
theorem dX3_debt_0 : decode cX3_debt 0 = .ok (.iload_n 1, 1) := by decide +kernel
theorem dX3_debt_1 : decode cX3_debt 1 = .ok (.iconst 1, 1) := by decide +kernel
theorem dX3_debt_2 : decode cX3_debt 2 = .ok (.bipush 9, 2) := by decide +kernel
theorem dX3_debt_4 : decode cX3_debt 4 = .ok (.invokestatic 62, 3) := by decide +kernel
theorem dX3_debt_7 : decode cX3_debt 7 = .ok (.ifCond .eq 13, 3) := by decide +kernel
theorem dX3_debt_10 : decode cX3_debt 10 = .ok (.iload_n 2, 1) := by decide +kernel
theorem dX3_debt_11 : decode cX3_debt 11 = .ok (.iconst 0, 1) := by decide +kernel
theorem dX3_debt_12 : decode cX3_debt 12 = .ok (.bipush 99, 2) := by decide +kernel
theorem dX3_debt_14 : decode cX3_debt 14 = .ok (.invokestatic 62, 3) := by decide +kernel
theorem dX3_debt_17 : decode cX3_debt 17 = .ok (.ifCond .ne 6, 3) := by decide +kernel
theorem dX3_debt_20 : decode cX3_debt 20 = .ok (.bipush (-102), 2) := by decide +kernel
theorem dX3_debt_22 : decode cX3_debt 22 = .ok (.ireturn, 1) := by decide +kernel
theorem dX3_debt_23 : decode cX3_debt 23 = .ok (.aload_n 0, 1) := by decide +kernel
theorem dX3_debt_24 : decode cX3_debt 24 = .ok (.getfield 82, 3) := by decide +kernel
theorem dX3_debt_27 : decode cX3_debt 27 = .ok (.ifCond .ne 6, 3) := by decide +kernel
theorem dX3_debt_30 : decode cX3_debt 30 = .ok (.bipush (-103), 2) := by decide +kernel
theorem dX3_debt_32 : decode cX3_debt 32 = .ok (.ireturn, 1) := by decide +kernel
theorem dX3_debt_33 : decode cX3_debt 33 = .ok (.aload_n 0, 1) := by decide +kernel
theorem dX3_debt_34 : decode cX3_debt 34 = .ok (.getfield 94, 3) := by decide +kernel
theorem dX3_debt_37 : decode cX3_debt 37 = .ok (.bipush 6, 2) := by decide +kernel
theorem dX3_debt_39 : decode cX3_debt 39 = .ok (.if_icmp .ne 6, 3) := by decide +kernel
theorem dX3_debt_42 : decode cX3_debt 42 = .ok (.bipush (-104), 2) := by decide +kernel
theorem dX3_debt_44 : decode cX3_debt 44 = .ok (.ireturn, 1) := by decide +kernel
theorem dX3_debt_45 : decode cX3_debt 45 = .ok (.aload_n 0, 1) := by decide +kernel
theorem dX3_debt_46 : decode cX3_debt 46 = .ok (.getfield 22, 3) := by decide +kernel
theorem dX3_debt_49 : decode cX3_debt 49 = .ok (.aload_n 0, 1) := by decide +kernel
theorem dX3_debt_50 : decode cX3_debt 50 = .ok (.getfield 94, 3) := by decide +kernel
theorem dX3_debt_53 : decode cX3_debt 53 = .ok (.iload_n 1, 1) := by decide +kernel
theorem dX3_debt_54 : decode cX3_debt 54 = .ok (.iastore, 1) := by decide +kernel
theorem dX3_debt_55 : decode cX3_debt 55 = .ok (.aload_n 0, 1) := by decide +kernel
theorem dX3_debt_56 : decode cX3_debt 56 = .ok (.getfield 25, 3) := by decide +kernel
theorem dX3_debt_59 : decode cX3_debt 59 = .ok (.aload_n 0, 1) := by decide +kernel
theorem dX3_debt_60 : decode cX3_debt 60 = .ok (.getfield 94, 3) := by decide +kernel
theorem dX3_debt_63 : decode cX3_debt 63 = .ok (.iload_n 2, 1) := by decide +kernel
theorem dX3_debt_64 : decode cX3_debt 64 = .ok (.iastore, 1) := by decide +kernel
theorem dX3_debt_65 : decode cX3_debt 65 = .ok (.aload_n 0, 1) := by decide +kernel
theorem dX3_debt_66 : decode cX3_debt 66 = .ok (.dup, 1) := by decide +kernel
theorem dX3_debt_67 : decode cX3_debt 67 = .ok (.getfield 94, 3) := by decide +kernel
theorem dX3_debt_70 : decode cX3_debt 70 = .ok (.iconst 1, 1) := by decide +kernel
theorem dX3_debt_71 : decode cX3_debt 71 = .ok (.iadd, 1) := by decide +kernel
theorem dX3_debt_72 : decode cX3_debt 72 = .ok (.putfield 94, 3) := by decide +kernel
theorem dX3_debt_75 : decode cX3_debt 75 = .ok (.aload_n 0, 1) := by decide +kernel
theorem dX3_debt_76 : decode cX3_debt 76 = .ok (.getfield 94, 3) := by decide +kernel
theorem dX3_debt_79 : decode cX3_debt 79 = .ok (.ireturn, 1) := by decide +kernel
theorem dX3_pay_0 : decode cX3_pay 0 = .ok (.iconst 0, 1) := by decide +kernel
theorem dX3_pay_1 : decode cX3_pay 1 = .ok (.istore_n 1, 1) := by decide +kernel
theorem dX3_pay_2 : decode cX3_pay 2 = .ok (.iconst 0, 1) := by decide +kernel
theorem dX3_pay_3 : decode cX3_pay 3 = .ok (.istore_n 2, 1) := by decide +kernel
theorem dX3_pay_4 : decode cX3_pay 4 = .ok (.iload_n 2, 1) := by decide +kernel
theorem dX3_pay_5 : decode cX3_pay 5 = .ok (.aload_n 0, 1) := by decide +kernel
theorem dX3_pay_6 : decode cX3_pay 6 = .ok (.getfield 94, 3) := by decide +kernel
theorem dX3_pay_9 : decode cX3_pay 9 = .ok (.if_icmp .ge 18, 3) := by decide +kernel
theorem dX3_pay_12 : decode cX3_pay 12 = .ok (.iload_n 1, 1) := by decide +kernel
theorem dX3_pay_13 : decode cX3_pay 13 = .ok (.aload_n 0, 1) := by decide +kernel
theorem dX3_pay_14 : decode cX3_pay 14 = .ok (.getfield 22, 3) := by decide +kernel
theorem dX3_pay_17 : decode cX3_pay 17 = .ok (.iload_n 2, 1) := by decide +kernel
theorem dX3_pay_18 : decode cX3_pay 18 = .ok (.iaload, 1) := by decide +kernel
theorem dX3_pay_19 : decode cX3_pay 19 = .ok (.iadd, 1) := by decide +kernel
theorem dX3_pay_20 : decode cX3_pay 20 = .ok (.istore_n 1, 1) := by decide +kernel
theorem dX3_pay_21 : decode cX3_pay 21 = .ok (.iinc 2 1, 3) := by decide +kernel
theorem dX3_pay_24 : decode cX3_pay 24 = .ok (.goto (-20), 3) := by decide +kernel
theorem dX3_pay_27 : decode cX3_pay 27 = .ok (.aload_n 0, 1) := by decide +kernel
theorem dX3_pay_28 : decode cX3_pay 28 = .ok (.iconst 0, 1) := by decide +kernel
theorem dX3_pay_29 : decode cX3_pay 29 = .ok (.putfield 94, 3) := by decide +kernel
theorem dX3_pay_32 : decode cX3_pay 32 = .ok (.iload_n 1, 1) := by decide +kernel
theorem dX3_pay_33 : decode cX3_pay 33 = .ok (.ireturn, 1) := by decide +kernel
theorem dX3_save_0 : decode cX3_save 0 = .ok (.iconst 0, 1) := by decide +kernel
theorem dX3_save_1 : decode cX3_save 1 = .ok (.istore_n 1, 1) := by decide +kernel
theorem dX3_save_2 : decode cX3_save 2 = .ok (.iload_n 1, 1) := by decide +kernel
theorem dX3_save_3 : decode cX3_save 3 = .ok (.bipush 6, 2) := by decide +kernel
theorem dX3_save_5 : decode cX3_save 5 = .ok (.if_icmp .ge 21, 3) := by decide +kernel
theorem dX3_save_8 : decode cX3_save 8 = .ok (.aload_n 0, 1) := by decide +kernel
theorem dX3_save_9 : decode cX3_save 9 = .ok (.getfield 38, 3) := by decide +kernel
theorem dX3_save_12 : decode cX3_save 12 = .ok (.iload_n 1, 1) := by decide +kernel
theorem dX3_save_13 : decode cX3_save 13 = .ok (.aload_n 0, 1) := by decide +kernel
theorem dX3_save_14 : decode cX3_save 14 = .ok (.getfield 13, 3) := by decide +kernel
theorem dX3_save_17 : decode cX3_save 17 = .ok (.iload_n 1, 1) := by decide +kernel
theorem dX3_save_18 : decode cX3_save 18 = .ok (.iaload, 1) := by decide +kernel
theorem dX3_save_19 : decode cX3_save 19 = .ok (.iastore, 1) := by decide +kernel
theorem dX3_save_20 : decode cX3_save 20 = .ok (.iinc 1 1, 3) := by decide +kernel
theorem dX3_save_23 : decode cX3_save 23 = .ok (.goto (-21), 3) := by decide +kernel
theorem dX3_save_26 : decode cX3_save 26 = .ok (.return_, 1) := by decide +kernel
theorem dX3_load_0 : decode cX3_load 0 = .ok (.iconst 0, 1) := by decide +kernel
theorem dX3_load_1 : decode cX3_load 1 = .ok (.istore_n 1, 1) := by decide +kernel
theorem dX3_load_2 : decode cX3_load 2 = .ok (.iload_n 1, 1) := by decide +kernel
theorem dX3_load_3 : decode cX3_load 3 = .ok (.bipush 6, 2) := by decide +kernel
theorem dX3_load_5 : decode cX3_load 5 = .ok (.if_icmp .ge 21, 3) := by decide +kernel
theorem dX3_load_8 : decode cX3_load 8 = .ok (.aload_n 0, 1) := by decide +kernel
theorem dX3_load_9 : decode cX3_load 9 = .ok (.getfield 13, 3) := by decide +kernel
theorem dX3_load_12 : decode cX3_load 12 = .ok (.iload_n 1, 1) := by decide +kernel
theorem dX3_load_13 : decode cX3_load 13 = .ok (.aload_n 0, 1) := by decide +kernel
theorem dX3_load_14 : decode cX3_load 14 = .ok (.getfield 38, 3) := by decide +kernel
theorem dX3_load_17 : decode cX3_load 17 = .ok (.iload_n 1, 1) := by decide +kernel
theorem dX3_load_18 : decode cX3_load 18 = .ok (.iaload, 1) := by decide +kernel
theorem dX3_load_19 : decode cX3_load 19 = .ok (.iastore, 1) := by decide +kernel
theorem dX3_load_20 : decode cX3_load 20 = .ok (.iinc 1 1, 3) := by decide +kernel
theorem dX3_load_23 : decode cX3_load 23 = .ok (.goto (-21), 3) := by decide +kernel
theorem dX3_load_26 : decode cX3_load 26 = .ok (.return_, 1) := by decide +kernel
set_option maxRecDepth 20000 in
theorem ggX3_numbersAll_X3_number : GoodIn wsX3_numbersAll wsX3_number := goodIn_r _ [6, 7, 8, 9, 10, 5, 11, 12, 13, 14, 15, 16, 17, 18, 19, 20, 21, 22, 23, 24, 25, 26, 27, 28, 29, 30, 31, 32, 33, 34, 35, 36, 37, 38, 39, 40, 41, 42, 43, 44] (by decide +kernel) (by decide +kernel)
set_option maxRecDepth 20000 in
theorem gX3_numbersAll_X3_number : GoodIn wsX3_numbersAll (wsV RX3 107 RX3 yX3_number wsX3_number) := goodIn_app (goodIn_of _ (by decide +kernel)) ggX3_numbersAll_X3_number
theorem dX3_numbersAll_0 : decode cX3_numbersAll 0 = .ok (.iconst 0, 1) := by decide +kernel
theorem dX3_numbersAll_1 : decode cX3_numbersAll 1 = .ok (.istore_n 1, 1) := by decide +kernel
theorem dX3_numbersAll_2 : decode cX3_numbersAll 2 = .ok (.iconst 0, 1) := by decide +kernel
theorem dX3_numbersAll_3 : decode cX3_numbersAll 3 = .ok (.istore_n 2, 1) := by decide +kernel
theorem dX3_numbersAll_4 : decode cX3_numbersAll 4 = .ok (.iload_n 2, 1) := by decide +kernel
theorem dX3_numbersAll_5 : decode cX3_numbersAll 5 = .ok (.aload_n 0, 1) := by decide +kernel
theorem dX3_numbersAll_6 : decode cX3_numbersAll 6 = .ok (.getfield 82, 3) := by decide +kernel
theorem dX3_numbersAll_9 : decode cX3_numbersAll 9 = .ok (.if_icmp .ge 17, 3) := by decide +kernel
theorem dX3_numbersAll_12 : decode cX3_numbersAll 12 = .ok (.iload_n 1, 1) := by decide +kernel
theorem dX3_numbersAll_13 : decode cX3_numbersAll 13 = .ok (.aload_n 0, 1) := by decide +kernel
theorem dX3_numbersAll_14 : decode cX3_numbersAll 14 = .ok (.iload_n 2, 1) := by decide +kernel
theorem dX3_numbersAll_15 : decode cX3_numbersAll 15 = .ok (.invokevirtual 107, 3) := by decide +kernel
theorem dX3_numbersAll_18 : decode cX3_numbersAll 18 = .ok (.iadd, 1) := by decide +kernel
theorem dX3_numbersAll_19 : decode cX3_numbersAll 19 = .ok (.istore_n 1, 1) := by decide +kernel
theorem dX3_numbersAll_20 : decode cX3_numbersAll 20 = .ok (.iinc 2 1, 3) := by decide +kernel
theorem dX3_numbersAll_23 : decode cX3_numbersAll 23 = .ok (.goto (-19), 3) := by decide +kernel
theorem dX3_numbersAll_26 : decode cX3_numbersAll 26 = .ok (.iload_n 1, 1) := by decide +kernel
theorem dX3_numbersAll_27 : decode cX3_numbersAll 27 = .ok (.ireturn, 1) := by decide +kernel
set_option maxRecDepth 20000 in
theorem ggX3_numbersBy_X3_isIn : GoodIn wsX3_numbersBy wsX3_isIn := goodIn_r _ [6] (by decide +kernel) (by decide +kernel)
set_option maxRecDepth 20000 in
theorem gX3_numbersBy_X3_isIn : GoodIn wsX3_numbersBy (va_wsS RX3 144 yX3_isIn wsX3_isIn) := goodIn_app (goodIn_of _ (by decide +kernel)) ggX3_numbersBy_X3_isIn
set_option maxRecDepth 20000 in
theorem ggX3_numbersBy_X3_mayBirth : GoodIn wsX3_numbersBy wsX3_mayBirth := goodIn_r _ [10, 11, 38, 39, 40, 41, 42, 43, 44, 45, 46, 47, 48, 49, 50, 51, 52, 53, 54, 55, 56, 57, 58, 59, 60, 61, 62, 63, 64, 65, 66, 67, 68, 69] (by decide +kernel) (by decide +kernel)
set_option maxRecDepth 20000 in
theorem gX3_numbersBy_X3_mayBirth : GoodIn wsX3_numbersBy (wsV RX3 128 RX3 yX3_mayBirth wsX3_mayBirth) := goodIn_app (goodIn_of _ (by decide +kernel)) ggX3_numbersBy_X3_mayBirth
set_option maxRecDepth 20000 in
theorem ggX3_numbersBy_X3_ageNone : GoodIn wsX3_numbersBy wsX3_ageNone := goodIn_r _ [15, 16, 17, 18, 19, 5, 20, 1, 11, 38, 39, 40, 41, 42, 43, 44, 45, 46, 47, 48, 49, 50, 51, 52, 53, 54, 55, 56, 57, 58, 59, 60, 61, 62, 63, 64, 65, 66, 67, 68, 69] (by decide +kernel) (by decide +kernel)
set_option maxRecDepth 20000 in
theorem gX3_numbersBy_X3_ageNone : GoodIn wsX3_numbersBy (wsV RX3 131 RX3 yX3_ageNone wsX3_ageNone) := goodIn_app (goodIn_of _ (by decide +kernel)) ggX3_numbersBy_X3_ageNone
set_option maxRecDepth 20000 in
theorem ggX3_numbersBy_X3_numbersAll : GoodIn wsX3_numbersBy wsX3_numbersAll := goodIn_r _ [24, 1, 25, 26, 27, 5, 28, 16, 29, 30, 31, 32, 11, 38, 39, 40, 41, 42, 43, 44, 45, 46, 47, 48, 49, 50, 51, 52, 53, 54, 55, 56, 57, 58, 59, 60, 61, 62, 63, 64, 65, 66, 67, 68, 69] (by decide +kernel) (by decide +kernel)
set_option maxRecDepth 20000 in
theorem gX3_numbersBy_X3_numbersAll : GoodIn wsX3_numbersBy (wsV RX3 148 RX3 yX3_numbersAll wsX3_numbersAll) := goodIn_app (goodIn_of _ (by decide +kernel)) ggX3_numbersBy_X3_numbersAll
set_option maxRecDepth 20000 in
theorem ggX3_numbersBy_X3_load : GoodIn wsX3_numbersBy wsX3_load := goodIn_r _ [36, 16, 37, 38, 39, 40, 41, 42, 43, 44, 45, 46, 47, 48, 49, 50, 51, 52, 53, 54, 55, 56, 57, 58, 59, 60, 61, 62, 63, 64, 65, 66, 67, 68, 69] (by decide +kernel) (by decide +kernel)
set_option maxRecDepth 20000 in
theorem gX3_numbersBy_X3_load : GoodIn wsX3_numbersBy (wsV RX3 151 RX3 yX3_load wsX3_load) := goodIn_app (goodIn_of _ (by decide +kernel)) ggX3_numbersBy_X3_load
theorem dX3_numbersBy_0 : decode cX3_numbersBy 0 = .ok (.iconst 1, 1) := by decide +kernel
theorem dX3_numbersBy_1 : decode cX3_numbersBy 1 = .ok (.istore_n 2, 1) := by decide +kernel
theorem dX3_numbersBy_2 : decode cX3_numbersBy 2 = .ok (.iconst 0, 1) := by decide +kernel
theorem dX3_numbersBy_3 : decode cX3_numbersBy 3 = .ok (.istore_n 3, 1) := by decide +kernel
theorem dX3_numbersBy_4 : decode cX3_numbersBy 4 = .ok (.iload_n 3, 1) := by decide +kernel
theorem dX3_numbersBy_5 : decode cX3_numbersBy 5 = .ok (.aload_n 0, 1) := by decide +kernel
theorem dX3_numbersBy_6 : decode cX3_numbersBy 6 = .ok (.getfield 82, 3) := by decide +kernel
theorem dX3_numbersBy_9 : decode cX3_numbersBy 9 = .ok (.if_icmp .ge 40, 3) := by decide +kernel
theorem dX3_numbersBy_12 : decode cX3_numbersBy 12 = .ok (.iload_n 1, 1) := by decide +kernel
theorem dX3_numbersBy_13 : decode cX3_numbersBy 13 = .ok (.iload_n 3, 1) := by decide +kernel
theorem dX3_numbersBy_14 : decode cX3_numbersBy 14 = .ok (.invokestatic 144, 3) := by decide +kernel
theorem dX3_numbersBy_17 : decode cX3_numbersBy 17 = .ok (.ifCond .eq 26, 3) := by decide +kernel
theorem dX3_numbersBy_20 : decode cX3_numbersBy 20 = .ok (.iload_n 2, 1) := by decide +kernel
theorem dX3_numbersBy_21 : decode cX3_numbersBy 21 = .ok (.ifCond .eq 15, 3) := by decide +kernel
theorem dX3_numbersBy_24 : decode cX3_numbersBy 24 = .ok (.aload_n 0, 1) := by decide +kernel
theorem dX3_numbersBy_25 : decode cX3_numbersBy 25 = .ok (.iload_n 3, 1) := by decide +kernel
theorem dX3_numbersBy_26 : decode cX3_numbersBy 26 = .ok (.invokevirtual 128, 3) := by decide +kernel
theorem dX3_numbersBy_29 : decode cX3_numbersBy 29 = .ok (.ifCond .eq 7, 3) := by decide +kernel
theorem dX3_numbersBy_32 : decode cX3_numbersBy 32 = .ok (.iconst 1, 1) := by decide +kernel
theorem dX3_numbersBy_33 : decode cX3_numbersBy 33 = .ok (.goto 4, 3) := by decide +kernel
theorem dX3_numbersBy_36 : decode cX3_numbersBy 36 = .ok (.iconst 0, 1) := by decide +kernel
theorem dX3_numbersBy_37 : decode cX3_numbersBy 37 = .ok (.istore_n 2, 1) := by decide +kernel
theorem dX3_numbersBy_38 : decode cX3_numbersBy 38 = .ok (.aload_n 0, 1) := by decide +kernel
theorem dX3_numbersBy_39 : decode cX3_numbersBy 39 = .ok (.iload_n 3, 1) := by decide +kernel
theorem dX3_numbersBy_40 : decode cX3_numbersBy 40 = .ok (.invokevirtual 131, 3) := by decide +kernel
theorem dX3_numbersBy_43 : decode cX3_numbersBy 43 = .ok (.iinc 3 1, 3) := by decide +kernel
theorem dX3_numbersBy_46 : decode cX3_numbersBy 46 = .ok (.goto (-42), 3) := by decide +kernel
theorem dX3_numbersBy_49 : decode cX3_numbersBy 49 = .ok (.aload_n 0, 1) := by decide +kernel
theorem dX3_numbersBy_50 : decode cX3_numbersBy 50 = .ok (.invokevirtual 148, 3) := by decide +kernel
theorem dX3_numbersBy_53 : decode cX3_numbersBy 53 = .ok (.istore_n 3, 1) := by decide +kernel
theorem dX3_numbersBy_54 : decode cX3_numbersBy 54 = .ok (.aload_n 0, 1) := by decide +kernel
theorem dX3_numbersBy_55 : decode cX3_numbersBy 55 = .ok (.invokevirtual 151, 3) := by decide +kernel
theorem dX3_numbersBy_58 : decode cX3_numbersBy 58 = .ok (.iload_n 2, 1) := by decide +kernel
theorem dX3_numbersBy_59 : decode cX3_numbersBy 59 = .ok (.ifCond .eq 7, 3) := by decide +kernel
theorem dX3_numbersBy_62 : decode cX3_numbersBy 62 = .ok (.iload_n 3, 1) := by decide +kernel
theorem dX3_numbersBy_63 : decode cX3_numbersBy 63 = .ok (.goto 5, 3) := by decide +kernel
theorem dX3_numbersBy_66 : decode cX3_numbersBy 66 = .ok (.ldc 154, 2) := by decide +kernel
theorem dX3_numbersBy_68 : decode cX3_numbersBy 68 = .ok (.ireturn, 1) := by decide +kernel
set_option maxRecDepth 20000 in
theorem ggX3_cheapNow_X3_save : GoodIn wsX3_cheapNow wsX3_save := goodIn_r _ [6, 7, 8, 49, 50, 51, 52, 53, 54, 55, 56, 57, 58, 59, 60, 61, 62, 63, 64, 65, 66, 67, 68, 69, 70, 71, 72, 73, 74, 75, 76, 77, 78, 79, 80] (by decide +kernel) (by decide +kernel)
set_option maxRecDepth 20000 in
theorem gX3_cheapNow_X3_save : GoodIn wsX3_cheapNow (wsV RX3 155 RX3 yX3_save wsX3_save) := goodIn_app (goodIn_of _ (by decide +kernel)) ggX3_cheapNow_X3_save
set_option maxRecDepth 20000 in
theorem ggX3_cheapNow_X3_size : GoodIn wsX3_cheapNow wsX3_size := goodIn_r _ [11] (by decide +kernel) (by decide +kernel)
set_option maxRecDepth 20000 in
theorem gX3_cheapNow_X3_size : GoodIn wsX3_cheapNow (va_wsS RX3 158 yX3_size wsX3_size) := goodIn_app (goodIn_of _ (by decide +kernel)) ggX3_cheapNow_X3_size
set_option maxRecDepth 20000 in
theorem ggX3_cheapNow_X3_numbersBy : GoodIn wsX3_cheapNow wsX3_numbersBy := goodIn_r _ [15, 1, 16, 17, 18, 5, 19, 20, 21, 22, 23, 24, 25, 26, 27, 28, 8, 29, 30, 31, 32, 33, 34, 35, 36, 37, 38, 39, 40, 41, 42, 43, 44, 45, 46, 47, 48, 7, 49, 50, 51, 52, 53, 54, 55, 56, 57, 58, 59, 60, 61, 62, 63, 64, 65, 66, 67, 68, 69, 70, 71, 72, 73, 74, 75, 76, 77, 78, 79, 80] (by decide +kernel) (by decide +kernel)
set_option maxRecDepth 20000 in
theorem gX3_cheapNow_X3_numbersBy : GoodIn wsX3_cheapNow (wsV RX3 161 RX3 yX3_numbersBy wsX3_numbersBy) := goodIn_app (goodIn_of _ (by decide +kernel)) ggX3_cheapNow_X3_numbersBy
theorem dX3_cheapNow_0 : decode cX3_cheapNow 0 = .ok (.aload_n 0, 1) := by decide +kernel
theorem dX3_cheapNow_1 : decode cX3_cheapNow 1 = .ok (.invokevirtual 155, 3) := by decide +kernel
theorem dX3_cheapNow_4 : decode cX3_cheapNow 4 = .ok (.iconst (-1), 1) := by decide +kernel
theorem dX3_cheapNow_5 : decode cX3_cheapNow 5 = .ok (.istore_n 3, 1) := by decide +kernel
theorem dX3_cheapNow_6 : decode cX3_cheapNow 6 = .ok (.iconst 0, 1) := by decide +kernel
theorem dX3_cheapNow_7 : decode cX3_cheapNow 7 = .ok (.istore 4, 2) := by decide +kernel
theorem dX3_cheapNow_9 : decode cX3_cheapNow 9 = .ok (.iload 4, 2) := by decide +kernel
theorem dX3_cheapNow_11 : decode cX3_cheapNow 11 = .ok (.iconst 1, 1) := by decide +kernel
theorem dX3_cheapNow_12 : decode cX3_cheapNow 12 = .ok (.aload_n 0, 1) := by decide +kernel
theorem dX3_cheapNow_13 : decode cX3_cheapNow 13 = .ok (.getfield 82, 3) := by decide +kernel
theorem dX3_cheapNow_16 : decode cX3_cheapNow 16 = .ok (.ishl, 1) := by decide +kernel
theorem dX3_cheapNow_17 : decode cX3_cheapNow 17 = .ok (.if_icmp .ge 55, 3) := by decide +kernel
theorem dX3_cheapNow_20 : decode cX3_cheapNow 20 = .ok (.iload_n 3, 1) := by decide +kernel
theorem dX3_cheapNow_21 : decode cX3_cheapNow 21 = .ok (.iconst (-1), 1) := by decide +kernel
theorem dX3_cheapNow_22 : decode cX3_cheapNow 22 = .ok (.if_icmp .eq 15, 3) := by decide +kernel
theorem dX3_cheapNow_25 : decode cX3_cheapNow 25 = .ok (.iload 4, 2) := by decide +kernel
theorem dX3_cheapNow_27 : decode cX3_cheapNow 27 = .ok (.invokestatic 158, 3) := by decide +kernel
theorem dX3_cheapNow_30 : decode cX3_cheapNow 30 = .ok (.iload_n 3, 1) := by decide +kernel
theorem dX3_cheapNow_31 : decode cX3_cheapNow 31 = .ok (.invokestatic 158, 3) := by decide +kernel
theorem dX3_cheapNow_34 : decode cX3_cheapNow 34 = .ok (.if_icmp .ge 7, 3) := by decide +kernel
theorem dX3_cheapNow_37 : decode cX3_cheapNow 37 = .ok (.iconst 1, 1) := by decide +kernel
theorem dX3_cheapNow_38 : decode cX3_cheapNow 38 = .ok (.goto 4, 3) := by decide +kernel
theorem dX3_cheapNow_41 : decode cX3_cheapNow 41 = .ok (.iconst 0, 1) := by decide +kernel
theorem dX3_cheapNow_42 : decode cX3_cheapNow 42 = .ok (.istore 5, 2) := by decide +kernel
theorem dX3_cheapNow_44 : decode cX3_cheapNow 44 = .ok (.iload 5, 2) := by decide +kernel
theorem dX3_cheapNow_46 : decode cX3_cheapNow 46 = .ok (.ifCond .eq 18, 3) := by decide +kernel
theorem dX3_cheapNow_49 : decode cX3_cheapNow 49 = .ok (.aload_n 0, 1) := by decide +kernel
theorem dX3_cheapNow_50 : decode cX3_cheapNow 50 = .ok (.iload 4, 2) := by decide +kernel
theorem dX3_cheapNow_52 : decode cX3_cheapNow 52 = .ok (.invokevirtual 161, 3) := by decide +kernel
theorem dX3_cheapNow_55 : decode cX3_cheapNow 55 = .ok (.iload_n 1, 1) := by decide +kernel
theorem dX3_cheapNow_56 : decode cX3_cheapNow 56 = .ok (.if_icmp .gt 8, 3) := by decide +kernel
theorem dX3_cheapNow_59 : decode cX3_cheapNow 59 = .ok (.iload 4, 2) := by decide +kernel
theorem dX3_cheapNow_61 : decode cX3_cheapNow 61 = .ok (.goto 4, 3) := by decide +kernel
theorem dX3_cheapNow_64 : decode cX3_cheapNow 64 = .ok (.iload_n 3, 1) := by decide +kernel
theorem dX3_cheapNow_65 : decode cX3_cheapNow 65 = .ok (.istore_n 3, 1) := by decide +kernel
theorem dX3_cheapNow_66 : decode cX3_cheapNow 66 = .ok (.iinc 4 1, 3) := by decide +kernel
theorem dX3_cheapNow_69 : decode cX3_cheapNow 69 = .ok (.goto (-60), 3) := by decide +kernel
theorem dX3_cheapNow_72 : decode cX3_cheapNow 72 = .ok (.iload_n 3, 1) := by decide +kernel
theorem dX3_cheapNow_73 : decode cX3_cheapNow 73 = .ok (.iconst (-1), 1) := by decide +kernel
theorem dX3_cheapNow_74 : decode cX3_cheapNow 74 = .ok (.if_icmp .eq 8, 3) := by decide +kernel
theorem dX3_cheapNow_77 : decode cX3_cheapNow 77 = .ok (.iload_n 2, 1) := by decide +kernel
theorem dX3_cheapNow_78 : decode cX3_cheapNow 78 = .ok (.iconst 1, 1) := by decide +kernel
theorem dX3_cheapNow_79 : decode cX3_cheapNow 79 = .ok (.if_icmp .ne 7, 3) := by decide +kernel
theorem dX3_cheapNow_82 : decode cX3_cheapNow 82 = .ok (.iload_n 3, 1) := by decide +kernel
theorem dX3_cheapNow_83 : decode cX3_cheapNow 83 = .ok (.goto 7, 3) := by decide +kernel
theorem dX3_cheapNow_86 : decode cX3_cheapNow 86 = .ok (.iload_n 3, 1) := by decide +kernel
theorem dX3_cheapNow_87 : decode cX3_cheapNow 87 = .ok (.invokestatic 158, 3) := by decide +kernel
theorem dX3_cheapNow_90 : decode cX3_cheapNow 90 = .ok (.ireturn, 1) := by decide +kernel
set_option maxRecDepth 20000 in
theorem ggX3_cheap_X3_within : GoodIn wsX3_cheap wsX3_within := goodIn_r _ [5] (by decide +kernel) (by decide +kernel)
set_option maxRecDepth 20000 in
theorem gX3_cheap_X3_within : GoodIn wsX3_cheap (va_wsS RX3 62 yX3_within wsX3_within) := goodIn_app (goodIn_of _ (by decide +kernel)) ggX3_cheap_X3_within
set_option maxRecDepth 20000 in
theorem ggX3_cheap_X3_cheapNow : GoodIn wsX3_cheap wsX3_cheapNow := goodIn_r _ [9, 1, 10, 11, 12, 4, 13, 14, 15, 16, 17, 18, 19, 20, 21, 22, 23, 24, 25, 26, 27, 28, 29, 30, 31, 32, 33, 34, 35, 36, 37, 38, 39, 40, 41, 42, 43, 44, 45, 46, 47, 48, 49, 50, 51, 52, 53, 54, 55, 56, 57, 58, 59, 60, 61, 62, 63, 64, 65, 66, 67, 68, 69, 70, 71, 72, 73, 74, 75, 76, 77, 78, 79, 80, 81, 82, 83, 84, 85, 86, 87] (by decide +kernel) (by decide +kernel)
set_option maxRecDepth 20000 in
theorem gX3_cheap_X3_cheapNow : GoodIn wsX3_cheap (wsV RX3 164 RX3 yX3_cheapNow wsX3_cheapNow) := goodIn_app (goodIn_of _ (by decide +kernel)) ggX3_cheap_X3_cheapNow
theorem dX3_cheap_0 : decode cX3_cheap 0 = .ok (.iload_n 1, 1) := by decide +kernel
theorem dX3_cheap_1 : decode cX3_cheap 1 = .ok (.iconst 0, 1) := by decide +kernel
theorem dX3_cheap_2 : decode cX3_cheap 2 = .ok (.sipush 400, 3) := by decide +kernel
theorem dX3_cheap_5 : decode cX3_cheap 5 = .ok (.invokestatic 62, 3) := by decide +kernel
theorem dX3_cheap_8 : decode cX3_cheap 8 = .ok (.ifCond .eq 12, 3) := by decide +kernel
theorem dX3_cheap_11 : decode cX3_cheap 11 = .ok (.iload_n 2, 1) := by decide +kernel
theorem dX3_cheap_12 : decode cX3_cheap 12 = .ok (.iconst 0, 1) := by decide +kernel
theorem dX3_cheap_13 : decode cX3_cheap 13 = .ok (.iconst 1, 1) := by decide +kernel
theorem dX3_cheap_14 : decode cX3_cheap 14 = .ok (.invokestatic 62, 3) := by decide +kernel
theorem dX3_cheap_17 : decode cX3_cheap 17 = .ok (.ifCond .ne 6, 3) := by decide +kernel
theorem dX3_cheap_20 : decode cX3_cheap 20 = .ok (.bipush (-102), 2) := by decide +kernel
theorem dX3_cheap_22 : decode cX3_cheap 22 = .ok (.ireturn, 1) := by decide +kernel
theorem dX3_cheap_23 : decode cX3_cheap 23 = .ok (.aload_n 0, 1) := by decide +kernel
theorem dX3_cheap_24 : decode cX3_cheap 24 = .ok (.getfield 82, 3) := by decide +kernel
theorem dX3_cheap_27 : decode cX3_cheap 27 = .ok (.ifCond .ne 8, 3) := by decide +kernel
theorem dX3_cheap_30 : decode cX3_cheap 30 = .ok (.bipush (-103), 2) := by decide +kernel
theorem dX3_cheap_32 : decode cX3_cheap 32 = .ok (.goto 9, 3) := by decide +kernel
theorem dX3_cheap_35 : decode cX3_cheap 35 = .ok (.aload_n 0, 1) := by decide +kernel
theorem dX3_cheap_36 : decode cX3_cheap 36 = .ok (.iload_n 1, 1) := by decide +kernel
theorem dX3_cheap_37 : decode cX3_cheap 37 = .ok (.iload_n 2, 1) := by decide +kernel
theorem dX3_cheap_38 : decode cX3_cheap 38 = .ok (.invokevirtual 164, 3) := by decide +kernel
theorem dX3_cheap_41 : decode cX3_cheap 41 = .ok (.ireturn, 1) := by decide +kernel
set_option maxRecDepth 20000 in
theorem ggX3_whenNow_X3_numberBy : GoodIn wsX3_whenNow wsX3_numberBy := goodIn_r _ [7, 1, 8, 9, 10, 11, 12, 13, 14, 15, 16, 17, 18, 19, 20, 21, 22, 23, 24, 25, 26, 27, 28, 29, 30, 31, 32, 33, 34, 35, 36, 37, 38, 39] (by decide +kernel) (by decide +kernel)
set_option maxRecDepth 20000 in
theorem gX3_whenNow_X3_numberBy : GoodIn wsX3_whenNow (wsV RX3 100 RX3 yX3_numberBy wsX3_numberBy) := goodIn_app (goodIn_of _ (by decide +kernel)) ggX3_whenNow_X3_numberBy
theorem dX3_whenNow_0 : decode cX3_whenNow 0 = .ok (.iconst 0, 1) := by decide +kernel
theorem dX3_whenNow_1 : decode cX3_whenNow 1 = .ok (.istore_n 3, 1) := by decide +kernel
theorem dX3_whenNow_2 : decode cX3_whenNow 2 = .ok (.iload_n 3, 1) := by decide +kernel
theorem dX3_whenNow_3 : decode cX3_whenNow 3 = .ok (.bipush 99, 2) := by decide +kernel
theorem dX3_whenNow_5 : decode cX3_whenNow 5 = .ok (.if_icmp .gt 47, 3) := by decide +kernel
theorem dX3_whenNow_8 : decode cX3_whenNow 8 = .ok (.aload_n 0, 1) := by decide +kernel
theorem dX3_whenNow_9 : decode cX3_whenNow 9 = .ok (.iload_n 1, 1) := by decide +kernel
theorem dX3_whenNow_10 : decode cX3_whenNow 10 = .ok (.aload_n 0, 1) := by decide +kernel
theorem dX3_whenNow_11 : decode cX3_whenNow 11 = .ok (.getfield 7, 3) := by decide +kernel
theorem dX3_whenNow_14 : decode cX3_whenNow 14 = .ok (.iload_n 1, 1) := by decide +kernel
theorem dX3_whenNow_15 : decode cX3_whenNow 15 = .ok (.iaload, 1) := by decide +kernel
theorem dX3_whenNow_16 : decode cX3_whenNow 16 = .ok (.iconst 4, 1) := by decide +kernel
theorem dX3_whenNow_17 : decode cX3_whenNow 17 = .ok (.if_icmp .ne 12, 3) := by decide +kernel
theorem dX3_whenNow_20 : decode cX3_whenNow 20 = .ok (.aload_n 0, 1) := by decide +kernel
theorem dX3_whenNow_21 : decode cX3_whenNow 21 = .ok (.getfield 13, 3) := by decide +kernel
theorem dX3_whenNow_24 : decode cX3_whenNow 24 = .ok (.iload_n 1, 1) := by decide +kernel
theorem dX3_whenNow_25 : decode cX3_whenNow 25 = .ok (.iaload, 1) := by decide +kernel
theorem dX3_whenNow_26 : decode cX3_whenNow 26 = .ok (.goto 11, 3) := by decide +kernel
theorem dX3_whenNow_29 : decode cX3_whenNow 29 = .ok (.aload_n 0, 1) := by decide +kernel
theorem dX3_whenNow_30 : decode cX3_whenNow 30 = .ok (.getfield 13, 3) := by decide +kernel
theorem dX3_whenNow_33 : decode cX3_whenNow 33 = .ok (.iload_n 1, 1) := by decide +kernel
theorem dX3_whenNow_34 : decode cX3_whenNow 34 = .ok (.iaload, 1) := by decide +kernel
theorem dX3_whenNow_35 : decode cX3_whenNow 35 = .ok (.iload_n 3, 1) := by decide +kernel
theorem dX3_whenNow_36 : decode cX3_whenNow 36 = .ok (.iadd, 1) := by decide +kernel
theorem dX3_whenNow_37 : decode cX3_whenNow 37 = .ok (.invokevirtual 100, 3) := by decide +kernel
theorem dX3_whenNow_40 : decode cX3_whenNow 40 = .ok (.iload_n 2, 1) := by decide +kernel
theorem dX3_whenNow_41 : decode cX3_whenNow 41 = .ok (.if_icmp .ne 5, 3) := by decide +kernel
theorem dX3_whenNow_44 : decode cX3_whenNow 44 = .ok (.iload_n 3, 1) := by decide +kernel
theorem dX3_whenNow_45 : decode cX3_whenNow 45 = .ok (.ireturn, 1) := by decide +kernel
theorem dX3_whenNow_46 : decode cX3_whenNow 46 = .ok (.iinc 3 1, 3) := by decide +kernel
theorem dX3_whenNow_49 : decode cX3_whenNow 49 = .ok (.goto (-47), 3) := by decide +kernel
theorem dX3_whenNow_52 : decode cX3_whenNow 52 = .ok (.iconst (-1), 1) := by decide +kernel
theorem dX3_whenNow_53 : decode cX3_whenNow 53 = .ok (.ireturn, 1) := by decide +kernel
set_option maxRecDepth 20000 in
theorem ggX3_when_X3_isHouse : GoodIn wsX3_when wsX3_isHouse := goodIn_r _ [5, 6, 7, 8, 4, 9, 20, 21, 22, 23, 24, 25, 26, 27, 28, 29, 30, 31, 32, 33, 34, 35, 36, 37, 38, 39, 40, 41, 42, 43, 44, 45, 46, 47, 48, 49, 50, 51] (by decide +kernel) (by decide +kernel)
set_option maxRecDepth 20000 in
theorem gX3_when_X3_isHouse : GoodIn wsX3_when (wsV RX3 122 RX3 yX3_isHouse wsX3_isHouse) := goodIn_app (goodIn_of _ (by decide +kernel)) ggX3_when_X3_isHouse
set_option maxRecDepth 20000 in
theorem ggX3_when_X3_whenNow : GoodIn wsX3_when wsX3_whenNow := goodIn_r _ [13, 14, 15, 16, 17, 18, 4, 19, 20, 21, 22, 23, 24, 25, 26, 27, 28, 29, 30, 31, 32, 33, 34, 35, 36, 37, 38, 39, 40, 41, 42, 43, 44, 45, 46, 47, 48, 49, 50, 51] (by decide +kernel) (by decide +kernel)
set_option maxRecDepth 20000 in
theorem gX3_when_X3_whenNow : GoodIn wsX3_when (wsV RX3 167 RX3 yX3_whenNow wsX3_whenNow) := goodIn_app (goodIn_of _ (by decide +kernel)) ggX3_when_X3_whenNow
theorem dX3_when_0 : decode cX3_when 0 = .ok (.aload_n 0, 1) := by decide +kernel
theorem dX3_when_1 : decode cX3_when 1 = .ok (.iload_n 1, 1) := by decide +kernel
theorem dX3_when_2 : decode cX3_when 2 = .ok (.invokevirtual 122, 3) := by decide +kernel
theorem dX3_when_5 : decode cX3_when 5 = .ok (.ifCond .eq 12, 3) := by decide +kernel
theorem dX3_when_8 : decode cX3_when 8 = .ok (.aload_n 0, 1) := by decide +kernel
theorem dX3_when_9 : decode cX3_when 9 = .ok (.iload_n 1, 1) := by decide +kernel
theorem dX3_when_10 : decode cX3_when 10 = .ok (.iload_n 2, 1) := by decide +kernel
theorem dX3_when_11 : decode cX3_when 11 = .ok (.invokevirtual 167, 3) := by decide +kernel
theorem dX3_when_14 : decode cX3_when 14 = .ok (.goto 5, 3) := by decide +kernel
theorem dX3_when_17 : decode cX3_when 17 = .ok (.bipush (-101), 2) := by decide +kernel
theorem dX3_when_19 : decode cX3_when 19 = .ok (.ireturn, 1) := by decide +kernel
set_option maxRecDepth 20000 in
theorem ggX3_hear_X3_isHouse : GoodIn wsX3_hear wsX3_isHouse := goodIn_r _ [8, 9, 10, 11, 7, 12, 13, 14, 15, 16, 17, 18, 19, 20, 21, 22, 23, 24, 25, 26, 27, 28, 29, 30, 31, 32, 33, 34, 35, 36, 37, 38, 39, 40, 41, 42, 43, 44] (by decide +kernel) (by decide +kernel)
set_option maxRecDepth 20000 in
theorem gX3_hear_X3_isHouse : GoodIn wsX3_hear (wsV RX3 122 RX3 yX3_isHouse wsX3_isHouse) := goodIn_app (goodIn_of _ (by decide +kernel)) ggX3_hear_X3_isHouse
set_option maxRecDepth 20000 in
theorem ggX3_hear_X3_within : GoodIn wsX3_hear wsX3_within := goodIn_r _ [12] (by decide +kernel) (by decide +kernel)
set_option maxRecDepth 20000 in
theorem gX3_hear_X3_within : GoodIn wsX3_hear (va_wsS RX3 62 yX3_within wsX3_within) := goodIn_app (goodIn_of _ (by decide +kernel)) ggX3_hear_X3_within
theorem dX3_hear_0 : decode cX3_hear 0 = .ok (.aload_n 0, 1) := by decide +kernel
theorem dX3_hear_1 : decode cX3_hear 1 = .ok (.iload_n 1, 1) := by decide +kernel
theorem dX3_hear_2 : decode cX3_hear 2 = .ok (.invokevirtual 122, 3) := by decide +kernel
theorem dX3_hear_5 : decode cX3_hear 5 = .ok (.ifCond .ne 6, 3) := by decide +kernel
theorem dX3_hear_8 : decode cX3_hear 8 = .ok (.bipush (-101), 2) := by decide +kernel
theorem dX3_hear_10 : decode cX3_hear 10 = .ok (.ireturn, 1) := by decide +kernel
theorem dX3_hear_11 : decode cX3_hear 11 = .ok (.iload_n 2, 1) := by decide +kernel
theorem dX3_hear_12 : decode cX3_hear 12 = .ok (.iconst 0, 1) := by decide +kernel
theorem dX3_hear_13 : decode cX3_hear 13 = .ok (.bipush 99, 2) := by decide +kernel
theorem dX3_hear_15 : decode cX3_hear 15 = .ok (.invokestatic 62, 3) := by decide +kernel
theorem dX3_hear_18 : decode cX3_hear 18 = .ok (.ifCond .ne 6, 3) := by decide +kernel
theorem dX3_hear_21 : decode cX3_hear 21 = .ok (.bipush (-102), 2) := by decide +kernel
theorem dX3_hear_23 : decode cX3_hear 23 = .ok (.ireturn, 1) := by decide +kernel
theorem dX3_hear_24 : decode cX3_hear 24 = .ok (.aload_n 0, 1) := by decide +kernel
theorem dX3_hear_25 : decode cX3_hear 25 = .ok (.getfield 97, 3) := by decide +kernel
theorem dX3_hear_28 : decode cX3_hear 28 = .ok (.bipush 6, 2) := by decide +kernel
theorem dX3_hear_30 : decode cX3_hear 30 = .ok (.if_icmp .ne 6, 3) := by decide +kernel
theorem dX3_hear_33 : decode cX3_hear 33 = .ok (.bipush (-104), 2) := by decide +kernel
theorem dX3_hear_35 : decode cX3_hear 35 = .ok (.ireturn, 1) := by decide +kernel
theorem dX3_hear_36 : decode cX3_hear 36 = .ok (.aload_n 0, 1) := by decide +kernel
theorem dX3_hear_37 : decode cX3_hear 37 = .ok (.getfield 28, 3) := by decide +kernel
theorem dX3_hear_40 : decode cX3_hear 40 = .ok (.aload_n 0, 1) := by decide +kernel
theorem dX3_hear_41 : decode cX3_hear 41 = .ok (.getfield 97, 3) := by decide +kernel
theorem dX3_hear_44 : decode cX3_hear 44 = .ok (.iload_n 1, 1) := by decide +kernel
theorem dX3_hear_45 : decode cX3_hear 45 = .ok (.iastore, 1) := by decide +kernel
theorem dX3_hear_46 : decode cX3_hear 46 = .ok (.aload_n 0, 1) := by decide +kernel
theorem dX3_hear_47 : decode cX3_hear 47 = .ok (.getfield 31, 3) := by decide +kernel
theorem dX3_hear_50 : decode cX3_hear 50 = .ok (.aload_n 0, 1) := by decide +kernel
theorem dX3_hear_51 : decode cX3_hear 51 = .ok (.getfield 97, 3) := by decide +kernel
theorem dX3_hear_54 : decode cX3_hear 54 = .ok (.iload_n 2, 1) := by decide +kernel
theorem dX3_hear_55 : decode cX3_hear 55 = .ok (.iastore, 1) := by decide +kernel
theorem dX3_hear_56 : decode cX3_hear 56 = .ok (.aload_n 0, 1) := by decide +kernel
theorem dX3_hear_57 : decode cX3_hear 57 = .ok (.dup, 1) := by decide +kernel
theorem dX3_hear_58 : decode cX3_hear 58 = .ok (.getfield 97, 3) := by decide +kernel
theorem dX3_hear_61 : decode cX3_hear 61 = .ok (.iconst 1, 1) := by decide +kernel
theorem dX3_hear_62 : decode cX3_hear 62 = .ok (.iadd, 1) := by decide +kernel
theorem dX3_hear_63 : decode cX3_hear 63 = .ok (.putfield 97, 3) := by decide +kernel
theorem dX3_hear_66 : decode cX3_hear 66 = .ok (.aload_n 0, 1) := by decide +kernel
theorem dX3_hear_67 : decode cX3_hear 67 = .ok (.getfield 97, 3) := by decide +kernel
theorem dX3_hear_70 : decode cX3_hear 70 = .ok (.ireturn, 1) := by decide +kernel
theorem dX3_forget_0 : decode cX3_forget 0 = .ok (.aload_n 0, 1) := by decide +kernel
theorem dX3_forget_1 : decode cX3_forget 1 = .ok (.getfield 97, 3) := by decide +kernel
theorem dX3_forget_4 : decode cX3_forget 4 = .ok (.istore_n 1, 1) := by decide +kernel
theorem dX3_forget_5 : decode cX3_forget 5 = .ok (.aload_n 0, 1) := by decide +kernel
theorem dX3_forget_6 : decode cX3_forget 6 = .ok (.iconst 0, 1) := by decide +kernel
theorem dX3_forget_7 : decode cX3_forget 7 = .ok (.putfield 97, 3) := by decide +kernel
theorem dX3_forget_10 : decode cX3_forget 10 = .ok (.iload_n 1, 1) := by decide +kernel
theorem dX3_forget_11 : decode cX3_forget 11 = .ok (.ireturn, 1) := by decide +kernel
set_option maxRecDepth 20000 in
theorem ggX3_isHeard_X3_numberOn : GoodIn wsX3_isHeard wsX3_numberOn := goodIn_r _ [8, 9, 10, 11, 12, 13, 14, 7, 15, 16, 17, 18, 19, 20, 21, 22, 23, 24, 25, 26, 27, 28, 29, 30, 31, 32, 33, 34, 35, 36, 37, 38, 39, 40, 41, 42, 43, 44, 45, 46, 47, 48] (by decide +kernel) (by decide +kernel)
set_option maxRecDepth 20000 in
theorem gX3_isHeard_X3_numberOn : GoodIn wsX3_isHeard (wsV RX3 113 RX3 yX3_numberOn wsX3_numberOn) := goodIn_app (goodIn_of _ (by decide +kernel)) ggX3_isHeard_X3_numberOn
theorem dX3_isHeard_0 : decode cX3_isHeard 0 = .ok (.iconst 1, 1) := by decide +kernel
theorem dX3_isHeard_1 : decode cX3_isHeard 1 = .ok (.istore_n 2, 1) := by decide +kernel
theorem dX3_isHeard_2 : decode cX3_isHeard 2 = .ok (.iconst 0, 1) := by decide +kernel
theorem dX3_isHeard_3 : decode cX3_isHeard 3 = .ok (.istore_n 3, 1) := by decide +kernel
theorem dX3_isHeard_4 : decode cX3_isHeard 4 = .ok (.iload_n 3, 1) := by decide +kernel
theorem dX3_isHeard_5 : decode cX3_isHeard 5 = .ok (.aload_n 0, 1) := by decide +kernel
theorem dX3_isHeard_6 : decode cX3_isHeard 6 = .ok (.getfield 97, 3) := by decide +kernel
theorem dX3_isHeard_9 : decode cX3_isHeard 9 = .ok (.if_icmp .ge 39, 3) := by decide +kernel
theorem dX3_isHeard_12 : decode cX3_isHeard 12 = .ok (.iload_n 2, 1) := by decide +kernel
theorem dX3_isHeard_13 : decode cX3_isHeard 13 = .ok (.ifCond .eq 27, 3) := by decide +kernel
theorem dX3_isHeard_16 : decode cX3_isHeard 16 = .ok (.aload_n 0, 1) := by decide +kernel
theorem dX3_isHeard_17 : decode cX3_isHeard 17 = .ok (.aload_n 0, 1) := by decide +kernel
theorem dX3_isHeard_18 : decode cX3_isHeard 18 = .ok (.getfield 28, 3) := by decide +kernel
theorem dX3_isHeard_21 : decode cX3_isHeard 21 = .ok (.iload_n 3, 1) := by decide +kernel
theorem dX3_isHeard_22 : decode cX3_isHeard 22 = .ok (.iaload, 1) := by decide +kernel
theorem dX3_isHeard_23 : decode cX3_isHeard 23 = .ok (.iload_n 1, 1) := by decide +kernel
theorem dX3_isHeard_24 : decode cX3_isHeard 24 = .ok (.invokevirtual 113, 3) := by decide +kernel
theorem dX3_isHeard_27 : decode cX3_isHeard 27 = .ok (.aload_n 0, 1) := by decide +kernel
theorem dX3_isHeard_28 : decode cX3_isHeard 28 = .ok (.getfield 31, 3) := by decide +kernel
theorem dX3_isHeard_31 : decode cX3_isHeard 31 = .ok (.iload_n 3, 1) := by decide +kernel
theorem dX3_isHeard_32 : decode cX3_isHeard 32 = .ok (.iaload, 1) := by decide +kernel
theorem dX3_isHeard_33 : decode cX3_isHeard 33 = .ok (.if_icmp .ne 7, 3) := by decide +kernel
theorem dX3_isHeard_36 : decode cX3_isHeard 36 = .ok (.iconst 1, 1) := by decide +kernel
theorem dX3_isHeard_37 : decode cX3_isHeard 37 = .ok (.goto 4, 3) := by decide +kernel
theorem dX3_isHeard_40 : decode cX3_isHeard 40 = .ok (.iconst 0, 1) := by decide +kernel
theorem dX3_isHeard_41 : decode cX3_isHeard 41 = .ok (.istore_n 2, 1) := by decide +kernel
theorem dX3_isHeard_42 : decode cX3_isHeard 42 = .ok (.iinc 3 1, 3) := by decide +kernel
theorem dX3_isHeard_45 : decode cX3_isHeard 45 = .ok (.goto (-41), 3) := by decide +kernel
theorem dX3_isHeard_48 : decode cX3_isHeard 48 = .ok (.iload_n 2, 1) := by decide +kernel
theorem dX3_isHeard_49 : decode cX3_isHeard 49 = .ok (.ireturn, 1) := by decide +kernel
set_option maxRecDepth 20000 in
theorem ggX3_daysNow_X3_isHeard : GoodIn wsX3_daysNow wsX3_isHeard := goodIn_r _ [6, 7, 8, 9, 10, 11, 12, 5, 13, 1, 14, 15, 16, 17, 18, 19, 20, 21, 22, 23, 24, 25, 26, 27, 28, 29, 30, 31, 32, 33, 34, 35, 36, 37, 38, 39, 40, 41, 42, 43, 44, 45, 46, 47, 48, 49, 50, 51, 52] (by decide +kernel) (by decide +kernel)
set_option maxRecDepth 20000 in
theorem gX3_daysNow_X3_isHeard : GoodIn wsX3_daysNow (wsV RX3 170 RX3 yX3_isHeard wsX3_isHeard) := goodIn_app (goodIn_of _ (by decide +kernel)) ggX3_daysNow_X3_isHeard
theorem dX3_daysNow_0 : decode cX3_daysNow 0 = .ok (.iconst 0, 1) := by decide +kernel
theorem dX3_daysNow_1 : decode cX3_daysNow 1 = .ok (.istore_n 2, 1) := by decide +kernel
theorem dX3_daysNow_2 : decode cX3_daysNow 2 = .ok (.iconst (-1), 1) := by decide +kernel
theorem dX3_daysNow_3 : decode cX3_daysNow 3 = .ok (.istore_n 3, 1) := by decide +kernel
theorem dX3_daysNow_4 : decode cX3_daysNow 4 = .ok (.aload_n 0, 1) := by decide +kernel
theorem dX3_daysNow_5 : decode cX3_daysNow 5 = .ok (.getfield 88, 3) := by decide +kernel
theorem dX3_daysNow_8 : decode cX3_daysNow 8 = .ok (.istore 4, 2) := by decide +kernel
theorem dX3_daysNow_10 : decode cX3_daysNow 10 = .ok (.iload 4, 2) := by decide +kernel
theorem dX3_daysNow_12 : decode cX3_daysNow 12 = .ok (.ifCond .lt 42, 3) := by decide +kernel
theorem dX3_daysNow_15 : decode cX3_daysNow 15 = .ok (.aload_n 0, 1) := by decide +kernel
theorem dX3_daysNow_16 : decode cX3_daysNow 16 = .ok (.iload 4, 2) := by decide +kernel
theorem dX3_daysNow_18 : decode cX3_daysNow 18 = .ok (.invokevirtual 170, 3) := by decide +kernel
theorem dX3_daysNow_21 : decode cX3_daysNow 21 = .ok (.istore 5, 2) := by decide +kernel
theorem dX3_daysNow_23 : decode cX3_daysNow 23 = .ok (.iload_n 2, 1) := by decide +kernel
theorem dX3_daysNow_24 : decode cX3_daysNow 24 = .ok (.iload 5, 2) := by decide +kernel
theorem dX3_daysNow_26 : decode cX3_daysNow 26 = .ok (.ifCond .eq 7, 3) := by decide +kernel
theorem dX3_daysNow_29 : decode cX3_daysNow 29 = .ok (.iconst 1, 1) := by decide +kernel
theorem dX3_daysNow_30 : decode cX3_daysNow 30 = .ok (.goto 4, 3) := by decide +kernel
theorem dX3_daysNow_33 : decode cX3_daysNow 33 = .ok (.iconst 0, 1) := by decide +kernel
theorem dX3_daysNow_34 : decode cX3_daysNow 34 = .ok (.iadd, 1) := by decide +kernel
theorem dX3_daysNow_35 : decode cX3_daysNow 35 = .ok (.istore_n 2, 1) := by decide +kernel
theorem dX3_daysNow_36 : decode cX3_daysNow 36 = .ok (.iload 5, 2) := by decide +kernel
theorem dX3_daysNow_38 : decode cX3_daysNow 38 = .ok (.ifCond .eq 8, 3) := by decide +kernel
theorem dX3_daysNow_41 : decode cX3_daysNow 41 = .ok (.iload 4, 2) := by decide +kernel
theorem dX3_daysNow_43 : decode cX3_daysNow 43 = .ok (.goto 4, 3) := by decide +kernel
theorem dX3_daysNow_46 : decode cX3_daysNow 46 = .ok (.iload_n 3, 1) := by decide +kernel
theorem dX3_daysNow_47 : decode cX3_daysNow 47 = .ok (.istore_n 3, 1) := by decide +kernel
theorem dX3_daysNow_48 : decode cX3_daysNow 48 = .ok (.iinc 4 (-1), 3) := by decide +kernel
theorem dX3_daysNow_51 : decode cX3_daysNow 51 = .ok (.goto (-41), 3) := by decide +kernel
theorem dX3_daysNow_54 : decode cX3_daysNow 54 = .ok (.iload_n 1, 1) := by decide +kernel
theorem dX3_daysNow_55 : decode cX3_daysNow 55 = .ok (.ifCond .ne 7, 3) := by decide +kernel
theorem dX3_daysNow_58 : decode cX3_daysNow 58 = .ok (.iload_n 2, 1) := by decide +kernel
theorem dX3_daysNow_59 : decode cX3_daysNow 59 = .ok (.goto 4, 3) := by decide +kernel
theorem dX3_daysNow_62 : decode cX3_daysNow 62 = .ok (.iload_n 3, 1) := by decide +kernel
theorem dX3_daysNow_63 : decode cX3_daysNow 63 = .ok (.ireturn, 1) := by decide +kernel
set_option maxRecDepth 20000 in
theorem ggX3_days_X3_within : GoodIn wsX3_days wsX3_within := goodIn_r _ [5] (by decide +kernel) (by decide +kernel)
set_option maxRecDepth 20000 in
theorem gX3_days_X3_within : GoodIn wsX3_days (va_wsS RX3 62 yX3_within wsX3_within) := goodIn_app (goodIn_of _ (by decide +kernel)) ggX3_days_X3_within
set_option maxRecDepth 20000 in
theorem ggX3_days_X3_daysNow : GoodIn wsX3_days wsX3_daysNow := goodIn_r _ [9, 10, 11, 12, 13, 4, 14, 15, 16, 17, 18, 19, 20, 21, 22, 23, 24, 25, 26, 27, 28, 29, 30, 31, 32, 33, 34, 35, 36, 37, 38, 39, 40, 41, 42, 43, 44, 45, 46, 47, 48, 49, 50, 51, 52, 53, 54, 55, 56, 57, 58, 59, 60] (by decide +kernel) (by decide +kernel)
set_option maxRecDepth 20000 in
theorem gX3_days_X3_daysNow : GoodIn wsX3_days (wsV RX3 173 RX3 yX3_daysNow wsX3_daysNow) := goodIn_app (goodIn_of _ (by decide +kernel)) ggX3_days_X3_daysNow
theorem dX3_days_0 : decode cX3_days 0 = .ok (.iload_n 1, 1) := by decide +kernel
theorem dX3_days_1 : decode cX3_days 1 = .ok (.iconst 0, 1) := by decide +kernel
theorem dX3_days_2 : decode cX3_days 2 = .ok (.iconst 1, 1) := by decide +kernel
theorem dX3_days_3 : decode cX3_days 3 = .ok (.invokestatic 62, 3) := by decide +kernel
theorem dX3_days_6 : decode cX3_days 6 = .ok (.ifCond .ne 6, 3) := by decide +kernel
theorem dX3_days_9 : decode cX3_days 9 = .ok (.bipush (-102), 2) := by decide +kernel
theorem dX3_days_11 : decode cX3_days 11 = .ok (.ireturn, 1) := by decide +kernel
theorem dX3_days_12 : decode cX3_days 12 = .ok (.aload_n 0, 1) := by decide +kernel
theorem dX3_days_13 : decode cX3_days 13 = .ok (.getfield 82, 3) := by decide +kernel
theorem dX3_days_16 : decode cX3_days 16 = .ok (.ifCond .ne 8, 3) := by decide +kernel
theorem dX3_days_19 : decode cX3_days 19 = .ok (.bipush (-103), 2) := by decide +kernel
theorem dX3_days_21 : decode cX3_days 21 = .ok (.goto 8, 3) := by decide +kernel
theorem dX3_days_24 : decode cX3_days 24 = .ok (.aload_n 0, 1) := by decide +kernel
theorem dX3_days_25 : decode cX3_days 25 = .ok (.iload_n 1, 1) := by decide +kernel
theorem dX3_days_26 : decode cX3_days 26 = .ok (.invokevirtual 173, 3) := by decide +kernel
theorem dX3_days_29 : decode cX3_days 29 = .ok (.ireturn, 1) := by decide +kernel
set_option maxRecDepth 20000 in
theorem ggX3_worstOf_X3_isHeard : GoodIn wsX3_worstOf wsX3_isHeard := goodIn_r _ [6, 7, 8, 9, 10, 11, 12, 5, 13, 1, 14, 15, 16, 17, 18, 19, 20, 21, 22, 23, 24, 25, 26, 27, 28, 29, 30, 31, 32, 33, 34, 35, 36, 37, 38, 39, 40, 41, 42, 43, 44, 45, 46, 47, 48, 49, 50, 51, 52] (by decide +kernel) (by decide +kernel)
set_option maxRecDepth 20000 in
theorem gX3_worstOf_X3_isHeard : GoodIn wsX3_worstOf (wsV RX3 170 RX3 yX3_isHeard wsX3_isHeard) := goodIn_app (goodIn_of _ (by decide +kernel)) ggX3_worstOf_X3_isHeard
set_option maxRecDepth 20000 in
theorem ggX3_worstOf_X3_numberOn : GoodIn wsX3_worstOf wsX3_numberOn := goodIn_r _ [13, 1, 14, 15, 16, 17, 18, 5, 19, 20, 21, 22, 23, 24, 25, 26, 27, 28, 29, 30, 31, 32, 33, 34, 35, 36, 37, 38, 39, 40, 41, 42, 43, 44, 45, 46, 47, 48, 49, 50, 51, 52] (by decide +kernel) (by decide +kernel)
set_option maxRecDepth 20000 in
theorem gX3_worstOf_X3_numberOn : GoodIn wsX3_worstOf (wsV RX3 113 RX3 yX3_numberOn wsX3_numberOn) := goodIn_app (goodIn_of _ (by decide +kernel)) ggX3_worstOf_X3_numberOn
theorem dX3_worstOf_0 : decode cX3_worstOf 0 = .ok (.iconst 0, 1) := by decide +kernel
theorem dX3_worstOf_1 : decode cX3_worstOf 1 = .ok (.istore_n 2, 1) := by decide +kernel
theorem dX3_worstOf_2 : decode cX3_worstOf 2 = .ok (.iconst 0, 1) := by decide +kernel
theorem dX3_worstOf_3 : decode cX3_worstOf 3 = .ok (.istore_n 3, 1) := by decide +kernel
theorem dX3_worstOf_4 : decode cX3_worstOf 4 = .ok (.iload_n 3, 1) := by decide +kernel
theorem dX3_worstOf_5 : decode cX3_worstOf 5 = .ok (.aload_n 0, 1) := by decide +kernel
theorem dX3_worstOf_6 : decode cX3_worstOf 6 = .ok (.getfield 88, 3) := by decide +kernel
theorem dX3_worstOf_9 : decode cX3_worstOf 9 = .ok (.if_icmp .gt 86, 3) := by decide +kernel
theorem dX3_worstOf_12 : decode cX3_worstOf 12 = .ok (.iconst 0, 1) := by decide +kernel
theorem dX3_worstOf_13 : decode cX3_worstOf 13 = .ok (.istore 4, 2) := by decide +kernel
theorem dX3_worstOf_15 : decode cX3_worstOf 15 = .ok (.iconst 0, 1) := by decide +kernel
theorem dX3_worstOf_16 : decode cX3_worstOf 16 = .ok (.istore 5, 2) := by decide +kernel
theorem dX3_worstOf_18 : decode cX3_worstOf 18 = .ok (.iload 5, 2) := by decide +kernel
theorem dX3_worstOf_20 : decode cX3_worstOf 20 = .ok (.aload_n 0, 1) := by decide +kernel
theorem dX3_worstOf_21 : decode cX3_worstOf 21 = .ok (.getfield 88, 3) := by decide +kernel
theorem dX3_worstOf_24 : decode cX3_worstOf 24 = .ok (.if_icmp .gt 52, 3) := by decide +kernel
theorem dX3_worstOf_27 : decode cX3_worstOf 27 = .ok (.aload_n 0, 1) := by decide +kernel
theorem dX3_worstOf_28 : decode cX3_worstOf 28 = .ok (.iload_n 3, 1) := by decide +kernel
theorem dX3_worstOf_29 : decode cX3_worstOf 29 = .ok (.invokevirtual 170, 3) := by decide +kernel
theorem dX3_worstOf_32 : decode cX3_worstOf 32 = .ok (.ifCond .eq 44, 3) := by decide +kernel
theorem dX3_worstOf_35 : decode cX3_worstOf 35 = .ok (.iload 4, 2) := by decide +kernel
theorem dX3_worstOf_37 : decode cX3_worstOf 37 = .ok (.aload_n 0, 1) := by decide +kernel
theorem dX3_worstOf_38 : decode cX3_worstOf 38 = .ok (.iload 5, 2) := by decide +kernel
theorem dX3_worstOf_40 : decode cX3_worstOf 40 = .ok (.invokevirtual 170, 3) := by decide +kernel
theorem dX3_worstOf_43 : decode cX3_worstOf 43 = .ok (.ifCond .eq 23, 3) := by decide +kernel
theorem dX3_worstOf_46 : decode cX3_worstOf 46 = .ok (.aload_n 0, 1) := by decide +kernel
theorem dX3_worstOf_47 : decode cX3_worstOf 47 = .ok (.iload_n 1, 1) := by decide +kernel
theorem dX3_worstOf_48 : decode cX3_worstOf 48 = .ok (.iload_n 3, 1) := by decide +kernel
theorem dX3_worstOf_49 : decode cX3_worstOf 49 = .ok (.invokevirtual 113, 3) := by decide +kernel
theorem dX3_worstOf_52 : decode cX3_worstOf 52 = .ok (.aload_n 0, 1) := by decide +kernel
theorem dX3_worstOf_53 : decode cX3_worstOf 53 = .ok (.iload_n 1, 1) := by decide +kernel
theorem dX3_worstOf_54 : decode cX3_worstOf 54 = .ok (.iload 5, 2) := by decide +kernel
theorem dX3_worstOf_56 : decode cX3_worstOf 56 = .ok (.invokevirtual 113, 3) := by decide +kernel
theorem dX3_worstOf_59 : decode cX3_worstOf 59 = .ok (.if_icmp .ne 7, 3) := by decide +kernel
theorem dX3_worstOf_62 : decode cX3_worstOf 62 = .ok (.iconst 1, 1) := by decide +kernel
theorem dX3_worstOf_63 : decode cX3_worstOf 63 = .ok (.goto 4, 3) := by decide +kernel
theorem dX3_worstOf_66 : decode cX3_worstOf 66 = .ok (.iconst 0, 1) := by decide +kernel
theorem dX3_worstOf_67 : decode cX3_worstOf 67 = .ok (.iadd, 1) := by decide +kernel
theorem dX3_worstOf_68 : decode cX3_worstOf 68 = .ok (.istore 4, 2) := by decide +kernel
theorem dX3_worstOf_70 : decode cX3_worstOf 70 = .ok (.iinc 5 1, 3) := by decide +kernel
theorem dX3_worstOf_73 : decode cX3_worstOf 73 = .ok (.goto (-55), 3) := by decide +kernel
theorem dX3_worstOf_76 : decode cX3_worstOf 76 = .ok (.iload 4, 2) := by decide +kernel
theorem dX3_worstOf_78 : decode cX3_worstOf 78 = .ok (.iload_n 2, 1) := by decide +kernel
theorem dX3_worstOf_79 : decode cX3_worstOf 79 = .ok (.if_icmp .le 8, 3) := by decide +kernel
theorem dX3_worstOf_82 : decode cX3_worstOf 82 = .ok (.iload 4, 2) := by decide +kernel
theorem dX3_worstOf_84 : decode cX3_worstOf 84 = .ok (.goto 4, 3) := by decide +kernel
theorem dX3_worstOf_87 : decode cX3_worstOf 87 = .ok (.iload_n 2, 1) := by decide +kernel
theorem dX3_worstOf_88 : decode cX3_worstOf 88 = .ok (.istore_n 2, 1) := by decide +kernel
theorem dX3_worstOf_89 : decode cX3_worstOf 89 = .ok (.iinc 3 1, 3) := by decide +kernel
theorem dX3_worstOf_92 : decode cX3_worstOf 92 = .ok (.goto (-88), 3) := by decide +kernel
theorem dX3_worstOf_95 : decode cX3_worstOf 95 = .ok (.iload_n 2, 1) := by decide +kernel
theorem dX3_worstOf_96 : decode cX3_worstOf 96 = .ok (.ireturn, 1) := by decide +kernel
set_option maxRecDepth 20000 in
theorem ggX3_askNow_X3_daysNow : GoodIn wsX3_askNow wsX3_daysNow := goodIn_r _ [7, 8, 9, 10, 11, 6, 12, 13, 14, 15, 16, 17, 18, 19, 20, 21, 22, 23, 24, 25, 26, 31, 32, 33, 34, 35, 36, 37, 38, 39, 40, 41, 42, 43, 44, 45, 46, 47, 48, 49, 50, 51, 52, 53, 54, 55, 56, 57, 58, 59, 60, 61, 62] (by decide +kernel) (by decide +kernel)
set_option maxRecDepth 20000 in
theorem gX3_askNow_X3_daysNow : GoodIn wsX3_askNow (wsV RX3 173 RX3 yX3_daysNow wsX3_daysNow) := goodIn_app (goodIn_of _ (by decide +kernel)) ggX3_askNow_X3_daysNow
set_option maxRecDepth 20000 in
theorem ggX3_askNow_X3_worstOf : GoodIn wsX3_askNow wsX3_worstOf := goodIn_r _ [30, 8, 9, 10, 11, 6, 12, 13, 14, 15, 16, 17, 18, 19, 20, 21, 22, 23, 24, 25, 26, 31, 32, 33, 34, 35, 36, 37, 38, 39, 40, 41, 42, 43, 44, 45, 46, 47, 48, 49, 50, 51, 52, 53, 54, 55, 56, 57, 58, 59, 60, 61, 62] (by decide +kernel) (by decide +kernel)
set_option maxRecDepth 20000 in
theorem gX3_askNow_X3_worstOf : GoodIn wsX3_askNow (wsV RX3 176 RX3 yX3_worstOf wsX3_worstOf) := goodIn_app (goodIn_of _ (by decide +kernel)) ggX3_askNow_X3_worstOf
theorem dX3_askNow_0 : decode cX3_askNow 0 = .ok (.iconst (-1), 1) := by decide +kernel
theorem dX3_askNow_1 : decode cX3_askNow 1 = .ok (.istore_n 1, 1) := by decide +kernel
theorem dX3_askNow_2 : decode cX3_askNow 2 = .ok (.aload_n 0, 1) := by decide +kernel
theorem dX3_askNow_3 : decode cX3_askNow 3 = .ok (.iconst 0, 1) := by decide +kernel
theorem dX3_askNow_4 : decode cX3_askNow 4 = .ok (.invokevirtual 173, 3) := by decide +kernel
theorem dX3_askNow_7 : decode cX3_askNow 7 = .ok (.ifCond .ne 7, 3) := by decide +kernel
theorem dX3_askNow_10 : decode cX3_askNow 10 = .ok (.iconst 0, 1) := by decide +kernel
theorem dX3_askNow_11 : decode cX3_askNow 11 = .ok (.goto 5, 3) := by decide +kernel
theorem dX3_askNow_14 : decode cX3_askNow 14 = .ok (.ldc 154, 2) := by decide +kernel
theorem dX3_askNow_16 : decode cX3_askNow 16 = .ok (.istore_n 2, 1) := by decide +kernel
theorem dX3_askNow_17 : decode cX3_askNow 17 = .ok (.iconst 0, 1) := by decide +kernel
theorem dX3_askNow_18 : decode cX3_askNow 18 = .ok (.istore_n 3, 1) := by decide +kernel
theorem dX3_askNow_19 : decode cX3_askNow 19 = .ok (.iload_n 3, 1) := by decide +kernel
theorem dX3_askNow_20 : decode cX3_askNow 20 = .ok (.aload_n 0, 1) := by decide +kernel
theorem dX3_askNow_21 : decode cX3_askNow 21 = .ok (.getfield 82, 3) := by decide +kernel
theorem dX3_askNow_24 : decode cX3_askNow 24 = .ok (.if_icmp .ge 41, 3) := by decide +kernel
theorem dX3_askNow_27 : decode cX3_askNow 27 = .ok (.aload_n 0, 1) := by decide +kernel
theorem dX3_askNow_28 : decode cX3_askNow 28 = .ok (.iload_n 3, 1) := by decide +kernel
theorem dX3_askNow_29 : decode cX3_askNow 29 = .ok (.invokevirtual 176, 3) := by decide +kernel
theorem dX3_askNow_32 : decode cX3_askNow 32 = .ok (.istore 4, 2) := by decide +kernel
theorem dX3_askNow_34 : decode cX3_askNow 34 = .ok (.iload 4, 2) := by decide +kernel
theorem dX3_askNow_36 : decode cX3_askNow 36 = .ok (.iload_n 2, 1) := by decide +kernel
theorem dX3_askNow_37 : decode cX3_askNow 37 = .ok (.if_icmp .ge 7, 3) := by decide +kernel
theorem dX3_askNow_40 : decode cX3_askNow 40 = .ok (.iload_n 3, 1) := by decide +kernel
theorem dX3_askNow_41 : decode cX3_askNow 41 = .ok (.goto 4, 3) := by decide +kernel
theorem dX3_askNow_44 : decode cX3_askNow 44 = .ok (.iload_n 1, 1) := by decide +kernel
theorem dX3_askNow_45 : decode cX3_askNow 45 = .ok (.istore_n 1, 1) := by decide +kernel
theorem dX3_askNow_46 : decode cX3_askNow 46 = .ok (.iload 4, 2) := by decide +kernel
theorem dX3_askNow_48 : decode cX3_askNow 48 = .ok (.iload_n 2, 1) := by decide +kernel
theorem dX3_askNow_49 : decode cX3_askNow 49 = .ok (.if_icmp .ge 8, 3) := by decide +kernel
theorem dX3_askNow_52 : decode cX3_askNow 52 = .ok (.iload 4, 2) := by decide +kernel
theorem dX3_askNow_54 : decode cX3_askNow 54 = .ok (.goto 4, 3) := by decide +kernel
theorem dX3_askNow_57 : decode cX3_askNow 57 = .ok (.iload_n 2, 1) := by decide +kernel
theorem dX3_askNow_58 : decode cX3_askNow 58 = .ok (.istore_n 2, 1) := by decide +kernel
theorem dX3_askNow_59 : decode cX3_askNow 59 = .ok (.iinc 3 1, 3) := by decide +kernel
theorem dX3_askNow_62 : decode cX3_askNow 62 = .ok (.goto (-43), 3) := by decide +kernel
theorem dX3_askNow_65 : decode cX3_askNow 65 = .ok (.iload_n 1, 1) := by decide +kernel
theorem dX3_askNow_66 : decode cX3_askNow 66 = .ok (.ireturn, 1) := by decide +kernel
set_option maxRecDepth 20000 in
theorem ggX3_ask_X3_askNow : GoodIn wsX3_ask wsX3_askNow := goodIn_r _ [6, 7, 1, 8, 9, 10, 5, 11, 12, 13, 14, 15, 16, 17, 18, 19, 20, 21, 22, 23, 24, 25, 26, 27, 28, 29, 30, 31, 32, 33, 34, 35, 36, 37, 38, 39, 40, 41, 42, 43, 44, 45, 46, 47, 48, 49, 50, 51, 52, 53, 54, 55, 56, 57, 58, 59, 60, 61, 62, 63, 64, 65, 66] (by decide +kernel) (by decide +kernel)
set_option maxRecDepth 20000 in
theorem gX3_ask_X3_askNow : GoodIn wsX3_ask (wsV RX3 179 RX3 yX3_askNow wsX3_askNow) := goodIn_app (goodIn_of _ (by decide +kernel)) ggX3_ask_X3_askNow
theorem dX3_ask_0 : decode cX3_ask 0 = .ok (.aload_n 0, 1) := by decide +kernel
theorem dX3_ask_1 : decode cX3_ask 1 = .ok (.getfield 82, 3) := by decide +kernel
theorem dX3_ask_4 : decode cX3_ask 4 = .ok (.ifCond .ne 8, 3) := by decide +kernel
theorem dX3_ask_7 : decode cX3_ask 7 = .ok (.bipush (-103), 2) := by decide +kernel
theorem dX3_ask_9 : decode cX3_ask 9 = .ok (.goto 7, 3) := by decide +kernel
theorem dX3_ask_12 : decode cX3_ask 12 = .ok (.aload_n 0, 1) := by decide +kernel
theorem dX3_ask_13 : decode cX3_ask 13 = .ok (.invokevirtual 179, 3) := by decide +kernel
theorem dX3_ask_16 : decode cX3_ask 16 = .ok (.ireturn, 1) := by decide +kernel
theorem dX3_draw_0 : decode cX3_draw 0 = .ok (.aload_n 0, 1) := by decide +kernel
theorem dX3_draw_1 : decode cX3_draw 1 = .ok (.ldc2_w 182, 3) := by decide +kernel
theorem dX3_draw_4 : decode cX3_draw 4 = .ok (.aload_n 0, 1) := by decide +kernel
theorem dX3_draw_5 : decode cX3_draw 5 = .ok (.getfield 184, 3) := by decide +kernel
theorem dX3_draw_8 : decode cX3_draw 8 = .ok (.lmul, 1) := by decide +kernel
theorem dX3_draw_9 : decode cX3_draw 9 = .ok (.ldc2_w 188, 3) := by decide +kernel
theorem dX3_draw_12 : decode cX3_draw 12 = .ok (.ladd, 1) := by decide +kernel
theorem dX3_draw_13 : decode cX3_draw 13 = .ok (.ldc2_w 190, 3) := by decide +kernel
theorem dX3_draw_16 : decode cX3_draw 16 = .ok (.land, 1) := by decide +kernel
theorem dX3_draw_17 : decode cX3_draw 17 = .ok (.putfield 184, 3) := by decide +kernel
theorem dX3_draw_20 : decode cX3_draw 20 = .ok (.aload_n 0, 1) := by decide +kernel
theorem dX3_draw_21 : decode cX3_draw 21 = .ok (.getfield 184, 3) := by decide +kernel
theorem dX3_draw_24 : decode cX3_draw 24 = .ok (.ldc2_w 192, 3) := by decide +kernel
theorem dX3_draw_27 : decode cX3_draw 27 = .ok (.ldiv, 1) := by decide +kernel
theorem dX3_draw_28 : decode cX3_draw 28 = .ok (.iload_n 1, 1) := by decide +kernel
theorem dX3_draw_29 : decode cX3_draw 29 = .ok (.i2l, 1) := by decide +kernel
theorem dX3_draw_30 : decode cX3_draw 30 = .ok (.lrem, 1) := by decide +kernel
theorem dX3_draw_31 : decode cX3_draw 31 = .ok (.l2i, 1) := by decide +kernel
theorem dX3_draw_32 : decode cX3_draw 32 = .ok (.ireturn, 1) := by decide +kernel
set_option maxRecDepth 20000 in
theorem ggX3_yearsNow_X3_save : GoodIn wsX3_yearsNow wsX3_save := goodIn_r _ [7, 8, 9, 59, 60, 61, 62, 63, 64, 65, 66, 67, 68, 69, 70, 71, 72, 73, 74, 75, 76, 77, 78, 79, 80, 81, 82, 83, 84, 85, 86, 87, 88, 89, 90] (by decide +kernel) (by decide +kernel)
set_option maxRecDepth 20000 in
theorem gX3_yearsNow_X3_save : GoodIn wsX3_yearsNow (wsV RX3 155 RX3 yX3_save wsX3_save) := goodIn_app (goodIn_of _ (by decide +kernel)) ggX3_yearsNow_X3_save
set_option maxRecDepth 20000 in
theorem ggX3_yearsNow_X3_draw : GoodIn wsX3_yearsNow wsX3_draw := goodIn_r _ [13, 14, 1, 15, 16, 17, 59, 60, 61, 62, 63, 64, 65, 66, 67, 68, 69, 70, 71, 72, 73, 74, 75, 76, 77, 78, 79, 80, 81, 82, 83, 84, 85, 86, 87, 88, 89, 90] (by decide +kernel) (by decide +kernel)
set_option maxRecDepth 20000 in
theorem gX3_yearsNow_X3_draw : GoodIn wsX3_yearsNow (wsV RX3 194 RX3 yX3_draw wsX3_draw) := goodIn_app (goodIn_of _ (by decide +kernel)) ggX3_yearsNow_X3_draw
set_option maxRecDepth 20000 in
theorem ggX3_yearsNow_X3_mayBirth : GoodIn wsX3_yearsNow wsX3_mayBirth := goodIn_r _ [21, 22, 59, 60, 61, 62, 63, 64, 65, 66, 67, 68, 69, 70, 71, 72, 73, 74, 75, 76, 77, 78, 79, 80, 81, 82, 83, 84, 85, 86, 87, 88, 89, 90] (by decide +kernel) (by decide +kernel)
set_option maxRecDepth 20000 in
theorem gX3_yearsNow_X3_mayBirth : GoodIn wsX3_yearsNow (wsV RX3 128 RX3 yX3_mayBirth wsX3_mayBirth) := goodIn_app (goodIn_of _ (by decide +kernel)) ggX3_yearsNow_X3_mayBirth
set_option maxRecDepth 20000 in
theorem ggX3_yearsNow_X3_ageNone : GoodIn wsX3_yearsNow wsX3_ageNone := goodIn_r _ [26, 9, 27, 28, 29, 6, 30, 2, 22, 59, 60, 61, 62, 63, 64, 65, 66, 67, 68, 69, 70, 71, 72, 73, 74, 75, 76, 77, 78, 79, 80, 81, 82, 83, 84, 85, 86, 87, 88, 89, 90] (by decide +kernel) (by decide +kernel)
set_option maxRecDepth 20000 in
theorem gX3_yearsNow_X3_ageNone : GoodIn wsX3_yearsNow (wsV RX3 131 RX3 yX3_ageNone wsX3_ageNone) := goodIn_app (goodIn_of _ (by decide +kernel)) ggX3_yearsNow_X3_ageNone
set_option maxRecDepth 20000 in
theorem ggX3_yearsNow_X3_walkNow : GoodIn wsX3_yearsNow wsX3_walkNow := goodIn_r _ [34, 2, 35, 36, 37, 6, 38, 39, 40, 41, 42, 9, 43, 44, 45, 46, 22, 59, 60, 61, 62, 63, 64, 65, 66, 67, 68, 69, 70, 71, 72, 73, 74, 75, 76, 77, 78, 79, 80, 81, 82, 83, 84, 85, 86, 87, 88, 89, 90] (by decide +kernel) (by decide +kernel)
set_option maxRecDepth 20000 in
theorem gX3_yearsNow_X3_walkNow : GoodIn wsX3_yearsNow (wsV RX3 141 RX3 yX3_walkNow wsX3_walkNow) := goodIn_app (goodIn_of _ (by decide +kernel)) ggX3_yearsNow_X3_walkNow
set_option maxRecDepth 20000 in
theorem ggX3_yearsNow_X3_ageMore : GoodIn wsX3_yearsNow wsX3_ageMore := goodIn_r _ [50, 2, 9, 22, 59, 60, 61, 62, 63, 64, 65, 66, 67, 68, 69, 70, 71, 72, 73, 74, 75, 76, 77, 78, 79, 80, 81, 82, 83, 84, 85, 86, 87, 88, 89, 90] (by decide +kernel) (by decide +kernel)
set_option maxRecDepth 20000 in
theorem gX3_yearsNow_X3_ageMore : GoodIn wsX3_yearsNow (wsV RX3 135 RX3 yX3_ageMore wsX3_ageMore) := goodIn_app (goodIn_of _ (by decide +kernel)) ggX3_yearsNow_X3_ageMore
set_option maxRecDepth 20000 in
theorem ggX3_yearsNow_X3_numbersAll : GoodIn wsX3_yearsNow wsX3_numbersAll := goodIn_r _ [54, 2, 39, 40, 41, 6, 42, 9, 43, 44, 45, 46, 22, 59, 60, 61, 62, 63, 64, 65, 66, 67, 68, 69, 70, 71, 72, 73, 74, 75, 76, 77, 78, 79, 80, 81, 82, 83, 84, 85, 86, 87, 88, 89, 90] (by decide +kernel) (by decide +kernel)
set_option maxRecDepth 20000 in
theorem gX3_yearsNow_X3_numbersAll : GoodIn wsX3_yearsNow (wsV RX3 148 RX3 yX3_numbersAll wsX3_numbersAll) := goodIn_app (goodIn_of _ (by decide +kernel)) ggX3_yearsNow_X3_numbersAll
set_option maxRecDepth 20000 in
theorem ggX3_yearsNow_X3_load : GoodIn wsX3_yearsNow wsX3_load := goodIn_r _ [58, 9, 8, 59, 60, 61, 62, 63, 64, 65, 66, 67, 68, 69, 70, 71, 72, 73, 74, 75, 76, 77, 78, 79, 80, 81, 82, 83, 84, 85, 86, 87, 88, 89, 90] (by decide +kernel) (by decide +kernel)
set_option maxRecDepth 20000 in
theorem gX3_yearsNow_X3_load : GoodIn wsX3_yearsNow (wsV RX3 151 RX3 yX3_load wsX3_load) := goodIn_app (goodIn_of _ (by decide +kernel)) ggX3_yearsNow_X3_load
theorem dX3_yearsNow_0 : decode cX3_yearsNow 0 = .ok (.aload_n 0, 1) := by decide +kernel
theorem dX3_yearsNow_1 : decode cX3_yearsNow 1 = .ok (.invokevirtual 155, 3) := by decide +kernel
theorem dX3_yearsNow_4 : decode cX3_yearsNow 4 = .ok (.aload_n 0, 1) := by decide +kernel
theorem dX3_yearsNow_5 : decode cX3_yearsNow 5 = .ok (.iload_n 2, 1) := by decide +kernel
theorem dX3_yearsNow_6 : decode cX3_yearsNow 6 = .ok (.i2l, 1) := by decide +kernel
theorem dX3_yearsNow_7 : decode cX3_yearsNow 7 = .ok (.putfield 184, 3) := by decide +kernel
theorem dX3_yearsNow_10 : decode cX3_yearsNow 10 = .ok (.iconst 0, 1) := by decide +kernel
theorem dX3_yearsNow_11 : decode cX3_yearsNow 11 = .ok (.istore 4, 2) := by decide +kernel
theorem dX3_yearsNow_13 : decode cX3_yearsNow 13 = .ok (.iconst 0, 1) := by decide +kernel
theorem dX3_yearsNow_14 : decode cX3_yearsNow 14 = .ok (.istore 5, 2) := by decide +kernel
theorem dX3_yearsNow_16 : decode cX3_yearsNow 16 = .ok (.iload 5, 2) := by decide +kernel
theorem dX3_yearsNow_18 : decode cX3_yearsNow 18 = .ok (.iload_n 1, 1) := by decide +kernel
theorem dX3_yearsNow_19 : decode cX3_yearsNow 19 = .ok (.if_icmp .ge 47, 3) := by decide +kernel
theorem dX3_yearsNow_22 : decode cX3_yearsNow 22 = .ok (.aload_n 0, 1) := by decide +kernel
theorem dX3_yearsNow_23 : decode cX3_yearsNow 23 = .ok (.aload_n 0, 1) := by decide +kernel
theorem dX3_yearsNow_24 : decode cX3_yearsNow 24 = .ok (.getfield 82, 3) := by decide +kernel
theorem dX3_yearsNow_27 : decode cX3_yearsNow 27 = .ok (.invokevirtual 194, 3) := by decide +kernel
theorem dX3_yearsNow_30 : decode cX3_yearsNow 30 = .ok (.istore 6, 2) := by decide +kernel
theorem dX3_yearsNow_32 : decode cX3_yearsNow 32 = .ok (.aload_n 0, 1) := by decide +kernel
theorem dX3_yearsNow_33 : decode cX3_yearsNow 33 = .ok (.iload 6, 2) := by decide +kernel
theorem dX3_yearsNow_35 : decode cX3_yearsNow 35 = .ok (.invokevirtual 128, 3) := by decide +kernel
theorem dX3_yearsNow_38 : decode cX3_yearsNow 38 = .ok (.ifCond .eq 9, 3) := by decide +kernel
theorem dX3_yearsNow_41 : decode cX3_yearsNow 41 = .ok (.aload_n 0, 1) := by decide +kernel
theorem dX3_yearsNow_42 : decode cX3_yearsNow 42 = .ok (.iload 6, 2) := by decide +kernel
theorem dX3_yearsNow_44 : decode cX3_yearsNow 44 = .ok (.invokevirtual 131, 3) := by decide +kernel
theorem dX3_yearsNow_47 : decode cX3_yearsNow 47 = .ok (.iload 4, 2) := by decide +kernel
theorem dX3_yearsNow_49 : decode cX3_yearsNow 49 = .ok (.aload_n 0, 1) := by decide +kernel
theorem dX3_yearsNow_50 : decode cX3_yearsNow 50 = .ok (.invokevirtual 141, 3) := by decide +kernel
theorem dX3_yearsNow_53 : decode cX3_yearsNow 53 = .ok (.iadd, 1) := by decide +kernel
theorem dX3_yearsNow_54 : decode cX3_yearsNow 54 = .ok (.istore 4, 2) := by decide +kernel
theorem dX3_yearsNow_56 : decode cX3_yearsNow 56 = .ok (.aload_n 0, 1) := by decide +kernel
theorem dX3_yearsNow_57 : decode cX3_yearsNow 57 = .ok (.invokevirtual 135, 3) := by decide +kernel
theorem dX3_yearsNow_60 : decode cX3_yearsNow 60 = .ok (.iinc 5 1, 3) := by decide +kernel
theorem dX3_yearsNow_63 : decode cX3_yearsNow 63 = .ok (.goto (-47), 3) := by decide +kernel
theorem dX3_yearsNow_66 : decode cX3_yearsNow 66 = .ok (.aload_n 0, 1) := by decide +kernel
theorem dX3_yearsNow_67 : decode cX3_yearsNow 67 = .ok (.invokevirtual 148, 3) := by decide +kernel
theorem dX3_yearsNow_70 : decode cX3_yearsNow 70 = .ok (.istore 5, 2) := by decide +kernel
theorem dX3_yearsNow_72 : decode cX3_yearsNow 72 = .ok (.aload_n 0, 1) := by decide +kernel
theorem dX3_yearsNow_73 : decode cX3_yearsNow 73 = .ok (.invokevirtual 151, 3) := by decide +kernel
theorem dX3_yearsNow_76 : decode cX3_yearsNow 76 = .ok (.iload_n 3, 1) := by decide +kernel
theorem dX3_yearsNow_77 : decode cX3_yearsNow 77 = .ok (.ifCond .ne 8, 3) := by decide +kernel
theorem dX3_yearsNow_80 : decode cX3_yearsNow 80 = .ok (.iload 4, 2) := by decide +kernel
theorem dX3_yearsNow_82 : decode cX3_yearsNow 82 = .ok (.goto 18, 3) := by decide +kernel
theorem dX3_yearsNow_85 : decode cX3_yearsNow 85 = .ok (.iload_n 3, 1) := by decide +kernel
theorem dX3_yearsNow_86 : decode cX3_yearsNow 86 = .ok (.iconst 1, 1) := by decide +kernel
theorem dX3_yearsNow_87 : decode cX3_yearsNow 87 = .ok (.if_icmp .ne 8, 3) := by decide +kernel
theorem dX3_yearsNow_90 : decode cX3_yearsNow 90 = .ok (.iload 5, 2) := by decide +kernel
theorem dX3_yearsNow_92 : decode cX3_yearsNow 92 = .ok (.goto 8, 3) := by decide +kernel
theorem dX3_yearsNow_95 : decode cX3_yearsNow 95 = .ok (.aload_n 0, 1) := by decide +kernel
theorem dX3_yearsNow_96 : decode cX3_yearsNow 96 = .ok (.getfield 184, 3) := by decide +kernel
theorem dX3_yearsNow_99 : decode cX3_yearsNow 99 = .ok (.l2i, 1) := by decide +kernel
theorem dX3_yearsNow_100 : decode cX3_yearsNow 100 = .ok (.ireturn, 1) := by decide +kernel
set_option maxRecDepth 20000 in
theorem ggX3_years_X3_within : GoodIn wsX3_years wsX3_within := goodIn_r _ [5] (by decide +kernel) (by decide +kernel)
set_option maxRecDepth 20000 in
theorem gX3_years_X3_within : GoodIn wsX3_years (va_wsS RX3 62 yX3_within wsX3_within) := goodIn_app (goodIn_of _ (by decide +kernel)) ggX3_years_X3_within
set_option maxRecDepth 20000 in
theorem ggX3_years_X3_yearsNow : GoodIn wsX3_years wsX3_yearsNow := goodIn_r _ [9, 10, 1, 11, 12, 13, 4, 14, 15, 16, 17, 18, 19, 20, 21, 22, 23, 24, 25, 26, 27, 28, 29, 30, 31, 32, 33, 34, 35, 36, 37, 38, 39, 40, 41, 42, 43, 44, 45, 46, 47, 48, 49, 50, 51, 52, 53, 54, 55, 56, 57, 58, 59, 60, 61, 62, 63, 64, 65, 66, 67, 68, 69, 70, 71, 72, 73, 74, 75, 76, 77, 78, 79, 80, 81, 82, 83, 84, 85, 86, 87, 88, 89, 90, 91, 92, 93, 94, 95, 96, 97] (by decide +kernel) (by decide +kernel)
set_option maxRecDepth 20000 in
theorem gX3_years_X3_yearsNow : GoodIn wsX3_years (wsV RX3 197 RX3 yX3_yearsNow wsX3_yearsNow) := goodIn_app (goodIn_of _ (by decide +kernel)) ggX3_years_X3_yearsNow
theorem dX3_years_0 : decode cX3_years 0 = .ok (.iload_n 1, 1) := by decide +kernel
theorem dX3_years_1 : decode cX3_years 1 = .ok (.iconst 1, 1) := by decide +kernel
theorem dX3_years_2 : decode cX3_years 2 = .ok (.bipush 60, 2) := by decide +kernel
theorem dX3_years_4 : decode cX3_years 4 = .ok (.invokestatic 62, 3) := by decide +kernel
theorem dX3_years_7 : decode cX3_years 7 = .ok (.ifCond .eq 16, 3) := by decide +kernel
theorem dX3_years_10 : decode cX3_years 10 = .ok (.iload_n 2, 1) := by decide +kernel
theorem dX3_years_11 : decode cX3_years 11 = .ok (.ifCond .lt 12, 3) := by decide +kernel
theorem dX3_years_14 : decode cX3_years 14 = .ok (.iload_n 3, 1) := by decide +kernel
theorem dX3_years_15 : decode cX3_years 15 = .ok (.iconst 0, 1) := by decide +kernel
theorem dX3_years_16 : decode cX3_years 16 = .ok (.iconst 2, 1) := by decide +kernel
theorem dX3_years_17 : decode cX3_years 17 = .ok (.invokestatic 62, 3) := by decide +kernel
theorem dX3_years_20 : decode cX3_years 20 = .ok (.ifCond .ne 6, 3) := by decide +kernel
theorem dX3_years_23 : decode cX3_years 23 = .ok (.bipush (-102), 2) := by decide +kernel
theorem dX3_years_25 : decode cX3_years 25 = .ok (.ireturn, 1) := by decide +kernel
theorem dX3_years_26 : decode cX3_years 26 = .ok (.aload_n 0, 1) := by decide +kernel
theorem dX3_years_27 : decode cX3_years 27 = .ok (.getfield 82, 3) := by decide +kernel
theorem dX3_years_30 : decode cX3_years 30 = .ok (.ifCond .ne 8, 3) := by decide +kernel
theorem dX3_years_33 : decode cX3_years 33 = .ok (.bipush (-103), 2) := by decide +kernel
theorem dX3_years_35 : decode cX3_years 35 = .ok (.goto 10, 3) := by decide +kernel
theorem dX3_years_38 : decode cX3_years 38 = .ok (.aload_n 0, 1) := by decide +kernel
theorem dX3_years_39 : decode cX3_years 39 = .ok (.iload_n 1, 1) := by decide +kernel
theorem dX3_years_40 : decode cX3_years 40 = .ok (.iload_n 2, 1) := by decide +kernel
theorem dX3_years_41 : decode cX3_years 41 = .ok (.iload_n 3, 1) := by decide +kernel
theorem dX3_years_42 : decode cX3_years 42 = .ok (.invokevirtual 197, 3) := by decide +kernel
theorem dX3_years_45 : decode cX3_years 45 = .ok (.ireturn, 1) := by decide +kernel
theorem dX3_image_0 : decode cX3_image 0 = .ok (.aload_n 0, 1) := by decide +kernel
theorem dX3_image_1 : decode cX3_image 1 = .ok (.getfield 82, 3) := by decide +kernel
theorem dX3_image_4 : decode cX3_image 4 = .ok (.ifCond .ne 6, 3) := by decide +kernel
theorem dX3_image_7 : decode cX3_image 7 = .ok (.bipush (-103), 2) := by decide +kernel
theorem dX3_image_9 : decode cX3_image 9 = .ok (.ireturn, 1) := by decide +kernel
theorem dX3_image_10 : decode cX3_image 10 = .ok (.aload_n 0, 1) := by decide +kernel
theorem dX3_image_11 : decode cX3_image 11 = .ok (.iconst 1, 1) := by decide +kernel
theorem dX3_image_12 : decode cX3_image 12 = .ok (.putfield 201, 3) := by decide +kernel
theorem dX3_image_15 : decode cX3_image 15 = .ok (.aload_n 0, 1) := by decide +kernel
theorem dX3_image_16 : decode cX3_image 16 = .ok (.aload_n 0, 1) := by decide +kernel
theorem dX3_image_17 : decode cX3_image 17 = .ok (.getfield 85, 3) := by decide +kernel
theorem dX3_image_20 : decode cX3_image 20 = .ok (.putfield 205, 3) := by decide +kernel
theorem dX3_image_23 : decode cX3_image 23 = .ok (.aload_n 0, 1) := by decide +kernel
theorem dX3_image_24 : decode cX3_image 24 = .ok (.aload_n 0, 1) := by decide +kernel
theorem dX3_image_25 : decode cX3_image 25 = .ok (.getfield 88, 3) := by decide +kernel
theorem dX3_image_28 : decode cX3_image 28 = .ok (.putfield 208, 3) := by decide +kernel
theorem dX3_image_31 : decode cX3_image 31 = .ok (.aload_n 0, 1) := by decide +kernel
theorem dX3_image_32 : decode cX3_image 32 = .ok (.aload_n 0, 1) := by decide +kernel
theorem dX3_image_33 : decode cX3_image 33 = .ok (.getfield 91, 3) := by decide +kernel
theorem dX3_image_36 : decode cX3_image 36 = .ok (.putfield 211, 3) := by decide +kernel
theorem dX3_image_39 : decode cX3_image 39 = .ok (.aload_n 0, 1) := by decide +kernel
theorem dX3_image_40 : decode cX3_image 40 = .ok (.aload_n 0, 1) := by decide +kernel
theorem dX3_image_41 : decode cX3_image 41 = .ok (.getfield 94, 3) := by decide +kernel
theorem dX3_image_44 : decode cX3_image 44 = .ok (.putfield 214, 3) := by decide +kernel
theorem dX3_image_47 : decode cX3_image 47 = .ok (.aload_n 0, 1) := by decide +kernel
theorem dX3_image_48 : decode cX3_image 48 = .ok (.aload_n 0, 1) := by decide +kernel
theorem dX3_image_49 : decode cX3_image 49 = .ok (.getfield 97, 3) := by decide +kernel
theorem dX3_image_52 : decode cX3_image 52 = .ok (.putfield 217, 3) := by decide +kernel
theorem dX3_image_55 : decode cX3_image 55 = .ok (.iconst 0, 1) := by decide +kernel
theorem dX3_image_56 : decode cX3_image 56 = .ok (.istore_n 1, 1) := by decide +kernel
theorem dX3_image_57 : decode cX3_image 57 = .ok (.iload_n 1, 1) := by decide +kernel
theorem dX3_image_58 : decode cX3_image 58 = .ok (.bipush 6, 2) := by decide +kernel
theorem dX3_image_60 : decode cX3_image 60 = .ok (.if_icmp .ge 81, 3) := by decide +kernel
theorem dX3_image_63 : decode cX3_image 63 = .ok (.aload_n 0, 1) := by decide +kernel
theorem dX3_image_64 : decode cX3_image 64 = .ok (.getfield 41, 3) := by decide +kernel
theorem dX3_image_67 : decode cX3_image 67 = .ok (.iload_n 1, 1) := by decide +kernel
theorem dX3_image_68 : decode cX3_image 68 = .ok (.aload_n 0, 1) := by decide +kernel
theorem dX3_image_69 : decode cX3_image 69 = .ok (.getfield 13, 3) := by decide +kernel
theorem dX3_image_72 : decode cX3_image 72 = .ok (.iload_n 1, 1) := by decide +kernel
theorem dX3_image_73 : decode cX3_image 73 = .ok (.iaload, 1) := by decide +kernel
theorem dX3_image_74 : decode cX3_image 74 = .ok (.iastore, 1) := by decide +kernel
theorem dX3_image_75 : decode cX3_image 75 = .ok (.aload_n 0, 1) := by decide +kernel
theorem dX3_image_76 : decode cX3_image 76 = .ok (.getfield 44, 3) := by decide +kernel
theorem dX3_image_79 : decode cX3_image 79 = .ok (.iload_n 1, 1) := by decide +kernel
theorem dX3_image_80 : decode cX3_image 80 = .ok (.aload_n 0, 1) := by decide +kernel
theorem dX3_image_81 : decode cX3_image 81 = .ok (.getfield 16, 3) := by decide +kernel
theorem dX3_image_84 : decode cX3_image 84 = .ok (.iload_n 1, 1) := by decide +kernel
theorem dX3_image_85 : decode cX3_image 85 = .ok (.iaload, 1) := by decide +kernel
theorem dX3_image_86 : decode cX3_image 86 = .ok (.iastore, 1) := by decide +kernel
theorem dX3_image_87 : decode cX3_image 87 = .ok (.aload_n 0, 1) := by decide +kernel
theorem dX3_image_88 : decode cX3_image 88 = .ok (.getfield 50, 3) := by decide +kernel
theorem dX3_image_91 : decode cX3_image 91 = .ok (.iload_n 1, 1) := by decide +kernel
theorem dX3_image_92 : decode cX3_image 92 = .ok (.aload_n 0, 1) := by decide +kernel
theorem dX3_image_93 : decode cX3_image 93 = .ok (.getfield 22, 3) := by decide +kernel
theorem dX3_image_96 : decode cX3_image 96 = .ok (.iload_n 1, 1) := by decide +kernel
theorem dX3_image_97 : decode cX3_image 97 = .ok (.iaload, 1) := by decide +kernel
theorem dX3_image_98 : decode cX3_image 98 = .ok (.iastore, 1) := by decide +kernel
theorem dX3_image_99 : decode cX3_image 99 = .ok (.aload_n 0, 1) := by decide +kernel
theorem dX3_image_100 : decode cX3_image 100 = .ok (.getfield 53, 3) := by decide +kernel
theorem dX3_image_103 : decode cX3_image 103 = .ok (.iload_n 1, 1) := by decide +kernel
theorem dX3_image_104 : decode cX3_image 104 = .ok (.aload_n 0, 1) := by decide +kernel
theorem dX3_image_105 : decode cX3_image 105 = .ok (.getfield 25, 3) := by decide +kernel
theorem dX3_image_108 : decode cX3_image 108 = .ok (.iload_n 1, 1) := by decide +kernel
theorem dX3_image_109 : decode cX3_image 109 = .ok (.iaload, 1) := by decide +kernel
theorem dX3_image_110 : decode cX3_image 110 = .ok (.iastore, 1) := by decide +kernel
theorem dX3_image_111 : decode cX3_image 111 = .ok (.aload_n 0, 1) := by decide +kernel
theorem dX3_image_112 : decode cX3_image 112 = .ok (.getfield 56, 3) := by decide +kernel
theorem dX3_image_115 : decode cX3_image 115 = .ok (.iload_n 1, 1) := by decide +kernel
theorem dX3_image_116 : decode cX3_image 116 = .ok (.aload_n 0, 1) := by decide +kernel
theorem dX3_image_117 : decode cX3_image 117 = .ok (.getfield 28, 3) := by decide +kernel
theorem dX3_image_120 : decode cX3_image 120 = .ok (.iload_n 1, 1) := by decide +kernel
theorem dX3_image_121 : decode cX3_image 121 = .ok (.iaload, 1) := by decide +kernel
theorem dX3_image_122 : decode cX3_image 122 = .ok (.iastore, 1) := by decide +kernel
theorem dX3_image_123 : decode cX3_image 123 = .ok (.aload_n 0, 1) := by decide +kernel
theorem dX3_image_124 : decode cX3_image 124 = .ok (.getfield 59, 3) := by decide +kernel
theorem dX3_image_127 : decode cX3_image 127 = .ok (.iload_n 1, 1) := by decide +kernel
theorem dX3_image_128 : decode cX3_image 128 = .ok (.aload_n 0, 1) := by decide +kernel
theorem dX3_image_129 : decode cX3_image 129 = .ok (.getfield 31, 3) := by decide +kernel
theorem dX3_image_132 : decode cX3_image 132 = .ok (.iload_n 1, 1) := by decide +kernel
theorem dX3_image_133 : decode cX3_image 133 = .ok (.iaload, 1) := by decide +kernel
theorem dX3_image_134 : decode cX3_image 134 = .ok (.iastore, 1) := by decide +kernel
theorem dX3_image_135 : decode cX3_image 135 = .ok (.iinc 1 1, 3) := by decide +kernel
theorem dX3_image_138 : decode cX3_image 138 = .ok (.goto (-81), 3) := by decide +kernel
theorem dX3_image_141 : decode cX3_image 141 = .ok (.iconst 0, 1) := by decide +kernel
theorem dX3_image_142 : decode cX3_image 142 = .ok (.istore_n 1, 1) := by decide +kernel
theorem dX3_image_143 : decode cX3_image 143 = .ok (.iload_n 1, 1) := by decide +kernel
theorem dX3_image_144 : decode cX3_image 144 = .ok (.sipush 186, 3) := by decide +kernel
theorem dX3_image_147 : decode cX3_image 147 = .ok (.if_icmp .ge 21, 3) := by decide +kernel
theorem dX3_image_150 : decode cX3_image 150 = .ok (.aload_n 0, 1) := by decide +kernel
theorem dX3_image_151 : decode cX3_image 151 = .ok (.getfield 47, 3) := by decide +kernel
theorem dX3_image_154 : decode cX3_image 154 = .ok (.iload_n 1, 1) := by decide +kernel
theorem dX3_image_155 : decode cX3_image 155 = .ok (.aload_n 0, 1) := by decide +kernel
theorem dX3_image_156 : decode cX3_image 156 = .ok (.getfield 19, 3) := by decide +kernel
theorem dX3_image_159 : decode cX3_image 159 = .ok (.iload_n 1, 1) := by decide +kernel
theorem dX3_image_160 : decode cX3_image 160 = .ok (.iaload, 1) := by decide +kernel
theorem dX3_image_161 : decode cX3_image 161 = .ok (.iastore, 1) := by decide +kernel
theorem dX3_image_162 : decode cX3_image 162 = .ok (.iinc 1 1, 3) := by decide +kernel
theorem dX3_image_165 : decode cX3_image 165 = .ok (.goto (-22), 3) := by decide +kernel
theorem dX3_image_168 : decode cX3_image 168 = .ok (.aload_n 0, 1) := by decide +kernel
theorem dX3_image_169 : decode cX3_image 169 = .ok (.getfield 88, 3) := by decide +kernel
theorem dX3_image_172 : decode cX3_image 172 = .ok (.ireturn, 1) := by decide +kernel
theorem dX3_restore_0 : decode cX3_restore 0 = .ok (.aload_n 0, 1) := by decide +kernel
theorem dX3_restore_1 : decode cX3_restore 1 = .ok (.getfield 201, 3) := by decide +kernel
theorem dX3_restore_4 : decode cX3_restore 4 = .ok (.ifCond .eq 14, 3) := by decide +kernel
theorem dX3_restore_7 : decode cX3_restore 7 = .ok (.aload_n 0, 1) := by decide +kernel
theorem dX3_restore_8 : decode cX3_restore 8 = .ok (.getfield 205, 3) := by decide +kernel
theorem dX3_restore_11 : decode cX3_restore 11 = .ok (.aload_n 0, 1) := by decide +kernel
theorem dX3_restore_12 : decode cX3_restore 12 = .ok (.getfield 85, 3) := by decide +kernel
theorem dX3_restore_15 : decode cX3_restore 15 = .ok (.if_icmp .eq 6, 3) := by decide +kernel
theorem dX3_restore_18 : decode cX3_restore 18 = .ok (.bipush (-103), 2) := by decide +kernel
theorem dX3_restore_20 : decode cX3_restore 20 = .ok (.ireturn, 1) := by decide +kernel
theorem dX3_restore_21 : decode cX3_restore 21 = .ok (.aload_n 0, 1) := by decide +kernel
theorem dX3_restore_22 : decode cX3_restore 22 = .ok (.aload_n 0, 1) := by decide +kernel
theorem dX3_restore_23 : decode cX3_restore 23 = .ok (.getfield 208, 3) := by decide +kernel
theorem dX3_restore_26 : decode cX3_restore 26 = .ok (.putfield 88, 3) := by decide +kernel
theorem dX3_restore_29 : decode cX3_restore 29 = .ok (.aload_n 0, 1) := by decide +kernel
theorem dX3_restore_30 : decode cX3_restore 30 = .ok (.aload_n 0, 1) := by decide +kernel
theorem dX3_restore_31 : decode cX3_restore 31 = .ok (.getfield 211, 3) := by decide +kernel
theorem dX3_restore_34 : decode cX3_restore 34 = .ok (.putfield 91, 3) := by decide +kernel
theorem dX3_restore_37 : decode cX3_restore 37 = .ok (.aload_n 0, 1) := by decide +kernel
theorem dX3_restore_38 : decode cX3_restore 38 = .ok (.aload_n 0, 1) := by decide +kernel
theorem dX3_restore_39 : decode cX3_restore 39 = .ok (.getfield 214, 3) := by decide +kernel
theorem dX3_restore_42 : decode cX3_restore 42 = .ok (.putfield 94, 3) := by decide +kernel
theorem dX3_restore_45 : decode cX3_restore 45 = .ok (.aload_n 0, 1) := by decide +kernel
theorem dX3_restore_46 : decode cX3_restore 46 = .ok (.aload_n 0, 1) := by decide +kernel
theorem dX3_restore_47 : decode cX3_restore 47 = .ok (.getfield 217, 3) := by decide +kernel
theorem dX3_restore_50 : decode cX3_restore 50 = .ok (.putfield 97, 3) := by decide +kernel
theorem dX3_restore_53 : decode cX3_restore 53 = .ok (.iconst 0, 1) := by decide +kernel
theorem dX3_restore_54 : decode cX3_restore 54 = .ok (.istore_n 1, 1) := by decide +kernel
theorem dX3_restore_55 : decode cX3_restore 55 = .ok (.iload_n 1, 1) := by decide +kernel
theorem dX3_restore_56 : decode cX3_restore 56 = .ok (.bipush 6, 2) := by decide +kernel
theorem dX3_restore_58 : decode cX3_restore 58 = .ok (.if_icmp .ge 81, 3) := by decide +kernel
theorem dX3_restore_61 : decode cX3_restore 61 = .ok (.aload_n 0, 1) := by decide +kernel
theorem dX3_restore_62 : decode cX3_restore 62 = .ok (.getfield 13, 3) := by decide +kernel
theorem dX3_restore_65 : decode cX3_restore 65 = .ok (.iload_n 1, 1) := by decide +kernel
theorem dX3_restore_66 : decode cX3_restore 66 = .ok (.aload_n 0, 1) := by decide +kernel
theorem dX3_restore_67 : decode cX3_restore 67 = .ok (.getfield 41, 3) := by decide +kernel
theorem dX3_restore_70 : decode cX3_restore 70 = .ok (.iload_n 1, 1) := by decide +kernel
theorem dX3_restore_71 : decode cX3_restore 71 = .ok (.iaload, 1) := by decide +kernel
theorem dX3_restore_72 : decode cX3_restore 72 = .ok (.iastore, 1) := by decide +kernel
theorem dX3_restore_73 : decode cX3_restore 73 = .ok (.aload_n 0, 1) := by decide +kernel
theorem dX3_restore_74 : decode cX3_restore 74 = .ok (.getfield 16, 3) := by decide +kernel
theorem dX3_restore_77 : decode cX3_restore 77 = .ok (.iload_n 1, 1) := by decide +kernel
theorem dX3_restore_78 : decode cX3_restore 78 = .ok (.aload_n 0, 1) := by decide +kernel
theorem dX3_restore_79 : decode cX3_restore 79 = .ok (.getfield 44, 3) := by decide +kernel
theorem dX3_restore_82 : decode cX3_restore 82 = .ok (.iload_n 1, 1) := by decide +kernel
theorem dX3_restore_83 : decode cX3_restore 83 = .ok (.iaload, 1) := by decide +kernel
theorem dX3_restore_84 : decode cX3_restore 84 = .ok (.iastore, 1) := by decide +kernel
theorem dX3_restore_85 : decode cX3_restore 85 = .ok (.aload_n 0, 1) := by decide +kernel
theorem dX3_restore_86 : decode cX3_restore 86 = .ok (.getfield 22, 3) := by decide +kernel
theorem dX3_restore_89 : decode cX3_restore 89 = .ok (.iload_n 1, 1) := by decide +kernel
theorem dX3_restore_90 : decode cX3_restore 90 = .ok (.aload_n 0, 1) := by decide +kernel
theorem dX3_restore_91 : decode cX3_restore 91 = .ok (.getfield 50, 3) := by decide +kernel
theorem dX3_restore_94 : decode cX3_restore 94 = .ok (.iload_n 1, 1) := by decide +kernel
theorem dX3_restore_95 : decode cX3_restore 95 = .ok (.iaload, 1) := by decide +kernel
theorem dX3_restore_96 : decode cX3_restore 96 = .ok (.iastore, 1) := by decide +kernel
theorem dX3_restore_97 : decode cX3_restore 97 = .ok (.aload_n 0, 1) := by decide +kernel
theorem dX3_restore_98 : decode cX3_restore 98 = .ok (.getfield 25, 3) := by decide +kernel
theorem dX3_restore_101 : decode cX3_restore 101 = .ok (.iload_n 1, 1) := by decide +kernel
theorem dX3_restore_102 : decode cX3_restore 102 = .ok (.aload_n 0, 1) := by decide +kernel
theorem dX3_restore_103 : decode cX3_restore 103 = .ok (.getfield 53, 3) := by decide +kernel
theorem dX3_restore_106 : decode cX3_restore 106 = .ok (.iload_n 1, 1) := by decide +kernel
theorem dX3_restore_107 : decode cX3_restore 107 = .ok (.iaload, 1) := by decide +kernel
theorem dX3_restore_108 : decode cX3_restore 108 = .ok (.iastore, 1) := by decide +kernel
theorem dX3_restore_109 : decode cX3_restore 109 = .ok (.aload_n 0, 1) := by decide +kernel
theorem dX3_restore_110 : decode cX3_restore 110 = .ok (.getfield 28, 3) := by decide +kernel
theorem dX3_restore_113 : decode cX3_restore 113 = .ok (.iload_n 1, 1) := by decide +kernel
theorem dX3_restore_114 : decode cX3_restore 114 = .ok (.aload_n 0, 1) := by decide +kernel
theorem dX3_restore_115 : decode cX3_restore 115 = .ok (.getfield 56, 3) := by decide +kernel
theorem dX3_restore_118 : decode cX3_restore 118 = .ok (.iload_n 1, 1) := by decide +kernel
theorem dX3_restore_119 : decode cX3_restore 119 = .ok (.iaload, 1) := by decide +kernel
theorem dX3_restore_120 : decode cX3_restore 120 = .ok (.iastore, 1) := by decide +kernel
theorem dX3_restore_121 : decode cX3_restore 121 = .ok (.aload_n 0, 1) := by decide +kernel
theorem dX3_restore_122 : decode cX3_restore 122 = .ok (.getfield 31, 3) := by decide +kernel
theorem dX3_restore_125 : decode cX3_restore 125 = .ok (.iload_n 1, 1) := by decide +kernel
theorem dX3_restore_126 : decode cX3_restore 126 = .ok (.aload_n 0, 1) := by decide +kernel
theorem dX3_restore_127 : decode cX3_restore 127 = .ok (.getfield 59, 3) := by decide +kernel
theorem dX3_restore_130 : decode cX3_restore 130 = .ok (.iload_n 1, 1) := by decide +kernel
theorem dX3_restore_131 : decode cX3_restore 131 = .ok (.iaload, 1) := by decide +kernel
theorem dX3_restore_132 : decode cX3_restore 132 = .ok (.iastore, 1) := by decide +kernel
theorem dX3_restore_133 : decode cX3_restore 133 = .ok (.iinc 1 1, 3) := by decide +kernel
theorem dX3_restore_136 : decode cX3_restore 136 = .ok (.goto (-81), 3) := by decide +kernel
theorem dX3_restore_139 : decode cX3_restore 139 = .ok (.iconst 0, 1) := by decide +kernel
theorem dX3_restore_140 : decode cX3_restore 140 = .ok (.istore_n 1, 1) := by decide +kernel
theorem dX3_restore_141 : decode cX3_restore 141 = .ok (.iload_n 1, 1) := by decide +kernel
theorem dX3_restore_142 : decode cX3_restore 142 = .ok (.sipush 186, 3) := by decide +kernel
theorem dX3_restore_145 : decode cX3_restore 145 = .ok (.if_icmp .ge 21, 3) := by decide +kernel
theorem dX3_restore_148 : decode cX3_restore 148 = .ok (.aload_n 0, 1) := by decide +kernel
theorem dX3_restore_149 : decode cX3_restore 149 = .ok (.getfield 19, 3) := by decide +kernel
theorem dX3_restore_152 : decode cX3_restore 152 = .ok (.iload_n 1, 1) := by decide +kernel
theorem dX3_restore_153 : decode cX3_restore 153 = .ok (.aload_n 0, 1) := by decide +kernel
theorem dX3_restore_154 : decode cX3_restore 154 = .ok (.getfield 47, 3) := by decide +kernel
theorem dX3_restore_157 : decode cX3_restore 157 = .ok (.iload_n 1, 1) := by decide +kernel
theorem dX3_restore_158 : decode cX3_restore 158 = .ok (.iaload, 1) := by decide +kernel
theorem dX3_restore_159 : decode cX3_restore 159 = .ok (.iastore, 1) := by decide +kernel
theorem dX3_restore_160 : decode cX3_restore 160 = .ok (.iinc 1 1, 3) := by decide +kernel
theorem dX3_restore_163 : decode cX3_restore 163 = .ok (.goto (-22), 3) := by decide +kernel
theorem dX3_restore_166 : decode cX3_restore 166 = .ok (.aload_n 0, 1) := by decide +kernel
theorem dX3_restore_167 : decode cX3_restore 167 = .ok (.getfield 88, 3) := by decide +kernel
theorem dX3_restore_170 : decode cX3_restore 170 = .ok (.ireturn, 1) := by decide +kernel
set_option maxRecDepth 20000 in
theorem ggX3_unlike_X3_number : GoodIn wsX3_unlike wsX3_number := goodIn_r _ [7, 8, 9, 10, 11, 6, 12, 13, 23, 24, 25, 26, 27, 28, 29, 30, 31, 32, 33, 34, 35, 36, 37, 38, 39, 40, 41, 42, 43, 44, 45, 46, 47, 48, 49, 50, 51, 52, 53, 54] (by decide +kernel) (by decide +kernel)
set_option maxRecDepth 20000 in
theorem gX3_unlike_X3_number : GoodIn wsX3_unlike (wsV RX3 107 RX3 yX3_number wsX3_number) := goodIn_app (goodIn_of _ (by decide +kernel)) ggX3_unlike_X3_number
set_option maxRecDepth 20000 in
theorem ggX3_unlike_X3_houseOf : GoodIn wsX3_unlike wsX3_houseOf := goodIn_r _ [17, 1, 18, 19, 20, 6, 21, 2, 8, 22, 9, 10, 11, 12, 13, 23, 24, 25, 26, 27, 28, 29, 30, 31, 32, 33, 34, 35, 36, 37, 38, 39, 40, 41, 42, 43, 44, 45, 46, 47, 48, 49, 50, 51, 52, 53, 54] (by decide +kernel) (by decide +kernel)
set_option maxRecDepth 20000 in
theorem gX3_unlike_X3_houseOf : GoodIn wsX3_unlike (wsV RX3 116 RX3 yX3_houseOf wsX3_houseOf) := goodIn_app (goodIn_of _ (by decide +kernel)) ggX3_unlike_X3_houseOf
theorem dX3_unlike_0 : decode cX3_unlike 0 = .ok (.iconst 0, 1) := by decide +kernel
theorem dX3_unlike_1 : decode cX3_unlike 1 = .ok (.istore_n 1, 1) := by decide +kernel
theorem dX3_unlike_2 : decode cX3_unlike 2 = .ok (.iconst 0, 1) := by decide +kernel
theorem dX3_unlike_3 : decode cX3_unlike 3 = .ok (.istore_n 2, 1) := by decide +kernel
theorem dX3_unlike_4 : decode cX3_unlike 4 = .ok (.iload_n 2, 1) := by decide +kernel
theorem dX3_unlike_5 : decode cX3_unlike 5 = .ok (.aload_n 0, 1) := by decide +kernel
theorem dX3_unlike_6 : decode cX3_unlike 6 = .ok (.getfield 82, 3) := by decide +kernel
theorem dX3_unlike_9 : decode cX3_unlike 9 = .ok (.if_icmp .ge 34, 3) := by decide +kernel
theorem dX3_unlike_12 : decode cX3_unlike 12 = .ok (.iload_n 1, 1) := by decide +kernel
theorem dX3_unlike_13 : decode cX3_unlike 13 = .ok (.aload_n 0, 1) := by decide +kernel
theorem dX3_unlike_14 : decode cX3_unlike 14 = .ok (.aload_n 0, 1) := by decide +kernel
theorem dX3_unlike_15 : decode cX3_unlike 15 = .ok (.iload_n 2, 1) := by decide +kernel
theorem dX3_unlike_16 : decode cX3_unlike 16 = .ok (.invokevirtual 107, 3) := by decide +kernel
theorem dX3_unlike_19 : decode cX3_unlike 19 = .ok (.aload_n 0, 1) := by decide +kernel
theorem dX3_unlike_20 : decode cX3_unlike 20 = .ok (.getfield 88, 3) := by decide +kernel
theorem dX3_unlike_23 : decode cX3_unlike 23 = .ok (.invokevirtual 116, 3) := by decide +kernel
theorem dX3_unlike_26 : decode cX3_unlike 26 = .ok (.iload_n 2, 1) := by decide +kernel
theorem dX3_unlike_27 : decode cX3_unlike 27 = .ok (.if_icmp .ne 7, 3) := by decide +kernel
theorem dX3_unlike_30 : decode cX3_unlike 30 = .ok (.iconst 1, 1) := by decide +kernel
theorem dX3_unlike_31 : decode cX3_unlike 31 = .ok (.goto 4, 3) := by decide +kernel
theorem dX3_unlike_34 : decode cX3_unlike 34 = .ok (.iconst 0, 1) := by decide +kernel
theorem dX3_unlike_35 : decode cX3_unlike 35 = .ok (.iadd, 1) := by decide +kernel
theorem dX3_unlike_36 : decode cX3_unlike 36 = .ok (.istore_n 1, 1) := by decide +kernel
theorem dX3_unlike_37 : decode cX3_unlike 37 = .ok (.iinc 2 1, 3) := by decide +kernel
theorem dX3_unlike_40 : decode cX3_unlike 40 = .ok (.goto (-36), 3) := by decide +kernel
theorem dX3_unlike_43 : decode cX3_unlike 43 = .ok (.iload_n 1, 1) := by decide +kernel
theorem dX3_unlike_44 : decode cX3_unlike 44 = .ok (.ireturn, 1) := by decide +kernel
set_option maxRecDepth 20000 in
theorem ggX3_owesAll_X3_owes : GoodIn wsX3_owesAll wsX3_owes := goodIn_r _ [6, 7, 8, 9, 10, 11, 12, 13, 5, 14, 1, 15, 16, 17, 18, 19, 20, 21, 22, 23, 24, 25, 26, 27, 28, 29, 30, 31, 32, 33, 34, 35, 36, 37, 38, 39, 40, 41, 42, 43, 44, 45, 46, 47, 48, 49, 50, 51, 52, 53, 54, 55, 56, 57] (by decide +kernel) (by decide +kernel)
set_option maxRecDepth 20000 in
theorem gX3_owesAll_X3_owes : GoodIn wsX3_owesAll (wsV RX3 119 RX3 yX3_owes wsX3_owes) := goodIn_app (goodIn_of _ (by decide +kernel)) ggX3_owesAll_X3_owes
theorem dX3_owesAll_0 : decode cX3_owesAll 0 = .ok (.iconst 0, 1) := by decide +kernel
theorem dX3_owesAll_1 : decode cX3_owesAll 1 = .ok (.istore_n 1, 1) := by decide +kernel
theorem dX3_owesAll_2 : decode cX3_owesAll 2 = .ok (.iconst 0, 1) := by decide +kernel
theorem dX3_owesAll_3 : decode cX3_owesAll 3 = .ok (.istore_n 2, 1) := by decide +kernel
theorem dX3_owesAll_4 : decode cX3_owesAll 4 = .ok (.iload_n 2, 1) := by decide +kernel
theorem dX3_owesAll_5 : decode cX3_owesAll 5 = .ok (.aload_n 0, 1) := by decide +kernel
theorem dX3_owesAll_6 : decode cX3_owesAll 6 = .ok (.getfield 82, 3) := by decide +kernel
theorem dX3_owesAll_9 : decode cX3_owesAll 9 = .ok (.if_icmp .ge 17, 3) := by decide +kernel
theorem dX3_owesAll_12 : decode cX3_owesAll 12 = .ok (.iload_n 1, 1) := by decide +kernel
theorem dX3_owesAll_13 : decode cX3_owesAll 13 = .ok (.aload_n 0, 1) := by decide +kernel
theorem dX3_owesAll_14 : decode cX3_owesAll 14 = .ok (.iload_n 2, 1) := by decide +kernel
theorem dX3_owesAll_15 : decode cX3_owesAll 15 = .ok (.invokevirtual 119, 3) := by decide +kernel
theorem dX3_owesAll_18 : decode cX3_owesAll 18 = .ok (.iadd, 1) := by decide +kernel
theorem dX3_owesAll_19 : decode cX3_owesAll 19 = .ok (.istore_n 1, 1) := by decide +kernel
theorem dX3_owesAll_20 : decode cX3_owesAll 20 = .ok (.iinc 2 1, 3) := by decide +kernel
theorem dX3_owesAll_23 : decode cX3_owesAll 23 = .ok (.goto (-19), 3) := by decide +kernel
theorem dX3_owesAll_26 : decode cX3_owesAll 26 = .ok (.iload_n 1, 1) := by decide +kernel
theorem dX3_owesAll_27 : decode cX3_owesAll 27 = .ok (.ireturn, 1) := by decide +kernel
set_option maxRecDepth 20000 in
theorem ggX3_howMany_X3_numbersAll : GoodIn wsX3_howMany wsX3_numbersAll := goodIn_r _ [12, 1, 13, 14, 15, 11, 16, 17, 18, 19, 20, 21, 22, 46, 47, 48, 49, 50, 51, 52, 53, 54, 55, 56, 57, 58, 59, 60, 61, 62, 63, 64, 65, 66, 67, 68, 69, 70, 71, 72, 73, 74, 75, 76, 77] (by decide +kernel) (by decide +kernel)
set_option maxRecDepth 20000 in
theorem gX3_howMany_X3_numbersAll : GoodIn wsX3_howMany (wsV RX3 148 RX3 yX3_numbersAll wsX3_numbersAll) := goodIn_app (goodIn_of _ (by decide +kernel)) ggX3_howMany_X3_numbersAll
set_option maxRecDepth 20000 in
theorem ggX3_howMany_X3_unlike : GoodIn wsX3_howMany wsX3_unlike := goodIn_r _ [26, 1, 2, 13, 14, 15, 11, 16, 17, 18, 19, 20, 21, 22, 27, 28, 29, 30, 31, 32, 33, 34, 35, 46, 47, 48, 49, 50, 51, 52, 53, 54, 55, 56, 57, 58, 59, 60, 61, 62, 63, 64, 65, 66, 67, 68, 69, 70, 71, 72, 73, 74, 75, 76, 77] (by decide +kernel) (by decide +kernel)
set_option maxRecDepth 20000 in
theorem gX3_howMany_X3_unlike : GoodIn wsX3_howMany (wsV RX3 220 RX3 yX3_unlike wsX3_unlike) := goodIn_app (goodIn_of _ (by decide +kernel)) ggX3_howMany_X3_unlike
set_option maxRecDepth 20000 in
theorem ggX3_howMany_X3_owesAll : GoodIn wsX3_howMany wsX3_owesAll := goodIn_r _ [39, 1, 40, 41, 42, 11, 43, 4, 44, 2, 45, 27, 28, 29, 30, 31, 32, 33, 34, 17, 35, 18, 19, 20, 21, 22, 46, 47, 48, 49, 50, 51, 52, 53, 54, 55, 56, 57, 58, 59, 60, 61, 62, 63, 64, 65, 66, 67, 68, 69, 70, 71, 72, 73, 74, 75, 76, 77] (by decide +kernel) (by decide +kernel)
set_option maxRecDepth 20000 in
theorem gX3_howMany_X3_owesAll : GoodIn wsX3_howMany (wsV RX3 223 RX3 yX3_owesAll wsX3_owesAll) := goodIn_app (goodIn_of _ (by decide +kernel)) ggX3_howMany_X3_owesAll
theorem dX3_howMany_0 : decode cX3_howMany 0 = .ok (.iload_n 1, 1) := by decide +kernel
theorem dX3_howMany_1 : decode cX3_howMany 1 = .ok (.tableswitch 105 0 9 #[55, 60, 65, 70, 75, 80, 85, 90, 95, 100], 55) := by decide +kernel
theorem dX3_howMany_56 : decode cX3_howMany 56 = .ok (.aload_n 0, 1) := by decide +kernel
theorem dX3_howMany_57 : decode cX3_howMany 57 = .ok (.getfield 82, 3) := by decide +kernel
theorem dX3_howMany_60 : decode cX3_howMany 60 = .ok (.ireturn, 1) := by decide +kernel
theorem dX3_howMany_61 : decode cX3_howMany 61 = .ok (.aload_n 0, 1) := by decide +kernel
theorem dX3_howMany_62 : decode cX3_howMany 62 = .ok (.getfield 88, 3) := by decide +kernel
theorem dX3_howMany_65 : decode cX3_howMany 65 = .ok (.ireturn, 1) := by decide +kernel
theorem dX3_howMany_66 : decode cX3_howMany 66 = .ok (.aload_n 0, 1) := by decide +kernel
theorem dX3_howMany_67 : decode cX3_howMany 67 = .ok (.getfield 91, 3) := by decide +kernel
theorem dX3_howMany_70 : decode cX3_howMany 70 = .ok (.ireturn, 1) := by decide +kernel
theorem dX3_howMany_71 : decode cX3_howMany 71 = .ok (.aload_n 0, 1) := by decide +kernel
theorem dX3_howMany_72 : decode cX3_howMany 72 = .ok (.invokevirtual 148, 3) := by decide +kernel
theorem dX3_howMany_75 : decode cX3_howMany 75 = .ok (.ireturn, 1) := by decide +kernel
theorem dX3_howMany_76 : decode cX3_howMany 76 = .ok (.aload_n 0, 1) := by decide +kernel
theorem dX3_howMany_77 : decode cX3_howMany 77 = .ok (.invokevirtual 220, 3) := by decide +kernel
theorem dX3_howMany_80 : decode cX3_howMany 80 = .ok (.ireturn, 1) := by decide +kernel
theorem dX3_howMany_81 : decode cX3_howMany 81 = .ok (.aload_n 0, 1) := by decide +kernel
theorem dX3_howMany_82 : decode cX3_howMany 82 = .ok (.getfield 94, 3) := by decide +kernel
theorem dX3_howMany_85 : decode cX3_howMany 85 = .ok (.ireturn, 1) := by decide +kernel
theorem dX3_howMany_86 : decode cX3_howMany 86 = .ok (.aload_n 0, 1) := by decide +kernel
theorem dX3_howMany_87 : decode cX3_howMany 87 = .ok (.invokevirtual 223, 3) := by decide +kernel
theorem dX3_howMany_90 : decode cX3_howMany 90 = .ok (.ireturn, 1) := by decide +kernel
theorem dX3_howMany_91 : decode cX3_howMany 91 = .ok (.aload_n 0, 1) := by decide +kernel
theorem dX3_howMany_92 : decode cX3_howMany 92 = .ok (.getfield 97, 3) := by decide +kernel
theorem dX3_howMany_95 : decode cX3_howMany 95 = .ok (.ireturn, 1) := by decide +kernel
theorem dX3_howMany_96 : decode cX3_howMany 96 = .ok (.aload_n 0, 1) := by decide +kernel
theorem dX3_howMany_97 : decode cX3_howMany 97 = .ok (.getfield 66, 3) := by decide +kernel
theorem dX3_howMany_100 : decode cX3_howMany 100 = .ok (.ireturn, 1) := by decide +kernel
theorem dX3_howMany_101 : decode cX3_howMany 101 = .ok (.aload_n 0, 1) := by decide +kernel
theorem dX3_howMany_102 : decode cX3_howMany 102 = .ok (.getfield 85, 3) := by decide +kernel
theorem dX3_howMany_105 : decode cX3_howMany 105 = .ok (.ireturn, 1) := by decide +kernel
theorem dX3_howMany_106 : decode cX3_howMany 106 = .ok (.bipush (-102), 2) := by decide +kernel
theorem dX3_howMany_108 : decode cX3_howMany 108 = .ok (.ireturn, 1) := by decide +kernel
set_option maxRecDepth 20000 in
theorem ggX3_count_X3_howMany : GoodIn wsX3_count wsX3_howMany := goodIn_r _ [5, 6, 7, 8, 9, 10, 11, 12, 13, 14, 15, 4, 16, 17, 18, 19, 20, 21, 22, 23, 24, 25, 26, 27, 28, 29, 30, 31, 32, 33, 34, 35, 36, 37, 38, 39, 40, 41, 42, 43, 44, 45, 46, 47, 48, 49, 50, 51, 52, 53, 54, 55, 56, 57, 58, 59, 60, 61, 62, 63, 64, 65, 66, 67, 68, 69, 70, 71, 72, 73, 74, 75, 76, 77, 78, 79, 80, 81] (by decide +kernel) (by decide +kernel)
set_option maxRecDepth 20000 in
theorem gX3_count_X3_howMany : GoodIn wsX3_count (wsV RX3 226 RX3 yX3_howMany wsX3_howMany) := goodIn_app (goodIn_of _ (by decide +kernel)) ggX3_count_X3_howMany
theorem dX3_count_0 : decode cX3_count 0 = .ok (.aload_n 0, 1) := by decide +kernel
theorem dX3_count_1 : decode cX3_count 1 = .ok (.iload_n 1, 1) := by decide +kernel
theorem dX3_count_2 : decode cX3_count 2 = .ok (.invokevirtual 226, 3) := by decide +kernel
theorem dX3_count_5 : decode cX3_count 5 = .ok (.ireturn, 1) := by decide +kernel
theorem dX3_mix_0 : decode cX3_mix 0 = .ok (.aload_n 0, 1) := by decide +kernel
theorem dX3_mix_1 : decode cX3_mix 1 = .ok (.ldc2_w 229, 3) := by decide +kernel
theorem dX3_mix_4 : decode cX3_mix 4 = .ok (.aload_n 0, 1) := by decide +kernel
theorem dX3_mix_5 : decode cX3_mix 5 = .ok (.getfield 231, 3) := by decide +kernel
theorem dX3_mix_8 : decode cX3_mix 8 = .ok (.lmul, 1) := by decide +kernel
theorem dX3_mix_9 : decode cX3_mix 9 = .ok (.lload_n 1, 1) := by decide +kernel
theorem dX3_mix_10 : decode cX3_mix 10 = .ok (.ladd, 1) := by decide +kernel
theorem dX3_mix_11 : decode cX3_mix 11 = .ok (.putfield 231, 3) := by decide +kernel
theorem dX3_mix_14 : decode cX3_mix 14 = .ok (.return_, 1) := by decide +kernel
set_option maxRecDepth 20000 in
theorem ggX3_mixHouse_X3_houseNow : GoodIn wsX3_mixHouse wsX3_houseNow := goodIn_r _ [6, 7, 8, 9, 10, 11, 12, 5, 13, 14, 15, 16, 17, 18, 19, 20, 21, 22, 23, 1, 24, 25, 26, 27, 28, 29, 30, 31, 32, 33, 34, 35, 36, 37, 38, 45, 46, 47, 48, 49, 50, 51, 52, 53, 54, 55, 56, 57, 58, 59, 60, 61, 62, 63, 64, 65, 66, 67, 68, 69, 70, 71, 72, 73, 74, 75, 76] (by decide +kernel) (by decide +kernel)
set_option maxRecDepth 20000 in
theorem gX3_mixHouse_X3_houseNow : GoodIn wsX3_mixHouse (wsV RX3 125 RX3 yX3_houseNow wsX3_houseNow) := goodIn_app (goodIn_of _ (by decide +kernel)) ggX3_mixHouse_X3_houseNow
set_option maxRecDepth 20000 in
theorem ggX3_mixHouse_X3_mix : GoodIn wsX3_mixHouse wsX3_mix := goodIn_r _ [42, 43, 44, 45, 46, 47, 48, 49, 50, 51, 52, 53, 54, 55, 56, 57, 58, 59, 60, 61, 62, 63, 64, 65, 66, 67, 68, 69, 70, 71, 72, 73, 74, 75, 76] (by decide +kernel) (by decide +kernel)
set_option maxRecDepth 20000 in
theorem gX3_mixHouse_X3_mix : GoodIn wsX3_mixHouse (wsV RX3 234 RX3 yX3_mix wsX3_mix) := goodIn_app (goodIn_of _ (by decide +kernel)) ggX3_mixHouse_X3_mix
set_option maxRecDepth 20000 in
theorem ggX3_mixHouse_X3_numberOn : GoodIn wsX3_mixHouse wsX3_numberOn := goodIn_r _ [33, 1, 8, 34, 14, 15, 16, 5, 17, 7, 45, 46, 47, 48, 49, 50, 51, 52, 53, 54, 55, 56, 57, 58, 59, 60, 61, 62, 63, 64, 65, 66, 67, 68, 69, 70, 71, 72, 73, 74, 75, 76] (by decide +kernel) (by decide +kernel)
set_option maxRecDepth 20000 in
theorem gX3_mixHouse_X3_numberOn : GoodIn wsX3_mixHouse (wsV RX3 113 RX3 yX3_numberOn wsX3_numberOn) := goodIn_app (goodIn_of _ (by decide +kernel)) ggX3_mixHouse_X3_numberOn
theorem dX3_mixHouse_0 : decode cX3_mixHouse 0 = .ok (.iconst 0, 1) := by decide +kernel
theorem dX3_mixHouse_1 : decode cX3_mixHouse 1 = .ok (.istore_n 2, 1) := by decide +kernel
theorem dX3_mixHouse_2 : decode cX3_mixHouse 2 = .ok (.iload_n 2, 1) := by decide +kernel
theorem dX3_mixHouse_3 : decode cX3_mixHouse 3 = .ok (.bipush 6, 2) := by decide +kernel
theorem dX3_mixHouse_5 : decode cX3_mixHouse 5 = .ok (.if_icmp .ge 20, 3) := by decide +kernel
theorem dX3_mixHouse_8 : decode cX3_mixHouse 8 = .ok (.aload_n 0, 1) := by decide +kernel
theorem dX3_mixHouse_9 : decode cX3_mixHouse 9 = .ok (.aload_n 0, 1) := by decide +kernel
theorem dX3_mixHouse_10 : decode cX3_mixHouse 10 = .ok (.iload_n 1, 1) := by decide +kernel
theorem dX3_mixHouse_11 : decode cX3_mixHouse 11 = .ok (.iload_n 2, 1) := by decide +kernel
theorem dX3_mixHouse_12 : decode cX3_mixHouse 12 = .ok (.invokevirtual 125, 3) := by decide +kernel
theorem dX3_mixHouse_15 : decode cX3_mixHouse 15 = .ok (.i2l, 1) := by decide +kernel
theorem dX3_mixHouse_16 : decode cX3_mixHouse 16 = .ok (.invokevirtual 234, 3) := by decide +kernel
theorem dX3_mixHouse_19 : decode cX3_mixHouse 19 = .ok (.iinc 2 1, 3) := by decide +kernel
theorem dX3_mixHouse_22 : decode cX3_mixHouse 22 = .ok (.goto (-20), 3) := by decide +kernel
theorem dX3_mixHouse_25 : decode cX3_mixHouse 25 = .ok (.iconst 0, 1) := by decide +kernel
theorem dX3_mixHouse_26 : decode cX3_mixHouse 26 = .ok (.istore_n 2, 1) := by decide +kernel
theorem dX3_mixHouse_27 : decode cX3_mixHouse 27 = .ok (.iload_n 2, 1) := by decide +kernel
theorem dX3_mixHouse_28 : decode cX3_mixHouse 28 = .ok (.aload_n 0, 1) := by decide +kernel
theorem dX3_mixHouse_29 : decode cX3_mixHouse 29 = .ok (.getfield 88, 3) := by decide +kernel
theorem dX3_mixHouse_32 : decode cX3_mixHouse 32 = .ok (.if_icmp .gt 20, 3) := by decide +kernel
theorem dX3_mixHouse_35 : decode cX3_mixHouse 35 = .ok (.aload_n 0, 1) := by decide +kernel
theorem dX3_mixHouse_36 : decode cX3_mixHouse 36 = .ok (.aload_n 0, 1) := by decide +kernel
theorem dX3_mixHouse_37 : decode cX3_mixHouse 37 = .ok (.iload_n 1, 1) := by decide +kernel
theorem dX3_mixHouse_38 : decode cX3_mixHouse 38 = .ok (.iload_n 2, 1) := by decide +kernel
theorem dX3_mixHouse_39 : decode cX3_mixHouse 39 = .ok (.invokevirtual 113, 3) := by decide +kernel
theorem dX3_mixHouse_42 : decode cX3_mixHouse 42 = .ok (.i2l, 1) := by decide +kernel
theorem dX3_mixHouse_43 : decode cX3_mixHouse 43 = .ok (.invokevirtual 234, 3) := by decide +kernel
theorem dX3_mixHouse_46 : decode cX3_mixHouse 46 = .ok (.iinc 2 1, 3) := by decide +kernel
theorem dX3_mixHouse_49 : decode cX3_mixHouse 49 = .ok (.goto (-22), 3) := by decide +kernel
theorem dX3_mixHouse_52 : decode cX3_mixHouse 52 = .ok (.return_, 1) := by decide +kernel
set_option maxRecDepth 20000 in
theorem ggX3_digest_X3_mixHouse : GoodIn wsX3_digest wsX3_mixHouse := goodIn_r _ [10, 11, 12, 13, 14, 9, 15, 16, 17, 18, 19, 20, 21, 22, 23, 24, 25, 26, 27, 28, 29, 30, 31, 32, 33, 34, 35, 36, 37, 3, 38, 39, 40, 41, 42, 43, 44, 45, 46, 47, 48, 49, 50, 51, 2, 129, 130, 131, 132, 133, 134, 135, 136, 137, 138, 139, 140, 141, 142, 143, 144, 145, 146, 147, 148, 149, 150, 151, 152, 153, 154, 155, 156, 157, 158, 159, 160] (by decide +kernel) (by decide +kernel)
set_option maxRecDepth 20000 in
theorem gX3_digest_X3_mixHouse : GoodIn wsX3_digest (wsV RX3 240 RX3 yX3_mixHouse wsX3_mixHouse) := goodIn_app (goodIn_of _ (by decide +kernel)) ggX3_digest_X3_mixHouse
set_option maxRecDepth 20000 in
theorem ggX3_digest_X3_walkNow : GoodIn wsX3_digest wsX3_walkNow := goodIn_r _ [55, 3, 43, 44, 45, 9, 46, 19, 20, 21, 22, 17, 23, 24, 25, 26, 16, 129, 130, 131, 132, 133, 134, 135, 136, 137, 138, 139, 140, 141, 142, 143, 144, 145, 146, 147, 148, 149, 150, 151, 152, 153, 154, 155, 156, 157, 158, 159, 160] (by decide +kernel) (by decide +kernel)
set_option maxRecDepth 20000 in
theorem gX3_digest_X3_walkNow : GoodIn wsX3_digest (wsV RX3 141 RX3 yX3_walkNow wsX3_walkNow) := goodIn_app (goodIn_of _ (by decide +kernel)) ggX3_digest_X3_walkNow
set_option maxRecDepth 20000 in
theorem ggX3_digest_X3_mix : GoodIn wsX3_digest wsX3_mix := goodIn_r _ [50, 51, 2, 129, 130, 131, 132, 133, 134, 135, 136, 137, 138, 139, 140, 141, 142, 143, 144, 145, 146, 147, 148, 149, 150, 151, 152, 153, 154, 155, 156, 157, 158, 159, 160] (by decide +kernel) (by decide +kernel)
set_option maxRecDepth 20000 in
theorem gX3_digest_X3_mix : GoodIn wsX3_digest (wsV RX3 234 RX3 yX3_mix wsX3_mix) := goodIn_app (goodIn_of _ (by decide +kernel)) ggX3_digest_X3_mix
set_option maxRecDepth 20000 in
theorem ggX3_digest_X3_cheapNow : GoodIn wsX3_digest wsX3_cheapNow := goodIn_r _ [59, 3, 60, 61, 62, 9, 63, 64, 17, 65, 66, 67, 68, 69, 70, 71, 72, 73, 74, 75, 76, 77, 78, 79, 16, 80, 81, 82, 83, 84, 85, 86, 87, 88, 89, 90, 91, 19, 20, 21, 22, 23, 24, 25, 26, 92, 93, 94, 95, 129, 130, 131, 132, 133, 134, 135, 136, 137, 138, 139, 140, 141, 142, 143, 144, 145, 146, 147, 148, 149, 150, 151, 152, 153, 154, 155, 156, 157, 158, 159, 160] (by decide +kernel) (by decide +kernel)
set_option maxRecDepth 20000 in
theorem gX3_digest_X3_cheapNow : GoodIn wsX3_digest (wsV RX3 164 RX3 yX3_cheapNow wsX3_cheapNow) := goodIn_app (goodIn_of _ (by decide +kernel)) ggX3_digest_X3_cheapNow
set_option maxRecDepth 20000 in
theorem ggX3_digest_X3_daysNow : GoodIn wsX3_digest wsX3_daysNow := goodIn_r _ [99, 11, 100, 101, 102, 9, 103, 104, 105, 106, 38, 39, 40, 41, 17, 42, 23, 24, 25, 26, 16, 129, 130, 131, 132, 133, 134, 135, 136, 137, 138, 139, 140, 141, 142, 143, 144, 145, 146, 147, 148, 149, 150, 151, 152, 153, 154, 155, 156, 157, 158, 159, 160] (by decide +kernel) (by decide +kernel)
set_option maxRecDepth 20000 in
theorem gX3_digest_X3_daysNow : GoodIn wsX3_digest (wsV RX3 173 RX3 yX3_daysNow wsX3_daysNow) := goodIn_app (goodIn_of _ (by decide +kernel)) ggX3_digest_X3_daysNow
set_option maxRecDepth 20000 in
theorem ggX3_digest_X3_askNow : GoodIn wsX3_digest wsX3_askNow := goodIn_r _ [110, 72, 3, 96, 97, 98, 9, 99, 11, 100, 101, 102, 103, 104, 105, 106, 38, 39, 40, 41, 17, 42, 23, 24, 25, 26, 16, 111, 112, 113, 114, 129, 130, 131, 132, 133, 134, 135, 136, 137, 138, 139, 140, 141, 142, 143, 144, 145, 146, 147, 148, 149, 150, 151, 152, 153, 154, 155, 156, 157, 158, 159, 160] (by decide +kernel) (by decide +kernel)
set_option maxRecDepth 20000 in
theorem gX3_digest_X3_askNow : GoodIn wsX3_digest (wsV RX3 179 RX3 yX3_askNow wsX3_askNow) := goodIn_app (goodIn_of _ (by decide +kernel)) ggX3_digest_X3_askNow
set_option maxRecDepth 20000 in
theorem ggX3_digest_X3_howMany : GoodIn wsX3_digest wsX3_howMany := goodIn_r _ [118, 3, 11, 119, 31, 104, 4, 120, 88, 89, 90, 9, 91, 19, 20, 21, 22, 17, 23, 24, 25, 26, 16, 121, 122, 123, 124, 34, 35, 36, 37, 38, 39, 40, 41, 42, 125, 126, 127, 128, 27, 28, 29, 30, 32, 33, 129, 130, 131, 132, 133, 134, 135, 136, 137, 138, 139, 140, 141, 142, 143, 144, 145, 146, 147, 148, 149, 150, 151, 152, 153, 154, 155, 156, 157, 158, 159, 160] (by decide +kernel) (by decide +kernel)
set_option maxRecDepth 20000 in
theorem gX3_digest_X3_howMany : GoodIn wsX3_digest (wsV RX3 226 RX3 yX3_howMany wsX3_howMany) := goodIn_app (goodIn_of _ (by decide +kernel)) ggX3_digest_X3_howMany
theorem dX3_digest_0 : decode cX3_digest 0 = .ok (.aload_n 0, 1) := by decide +kernel
theorem dX3_digest_1 : decode cX3_digest 1 = .ok (.ldc2_w 238, 3) := by decide +kernel
theorem dX3_digest_4 : decode cX3_digest 4 = .ok (.putfield 231, 3) := by decide +kernel
theorem dX3_digest_7 : decode cX3_digest 7 = .ok (.iconst 0, 1) := by decide +kernel
theorem dX3_digest_8 : decode cX3_digest 8 = .ok (.istore_n 1, 1) := by decide +kernel
theorem dX3_digest_9 : decode cX3_digest 9 = .ok (.iload_n 1, 1) := by decide +kernel
theorem dX3_digest_10 : decode cX3_digest 10 = .ok (.aload_n 0, 1) := by decide +kernel
theorem dX3_digest_11 : decode cX3_digest 11 = .ok (.getfield 82, 3) := by decide +kernel
theorem dX3_digest_14 : decode cX3_digest 14 = .ok (.if_icmp .ge 14, 3) := by decide +kernel
theorem dX3_digest_17 : decode cX3_digest 17 = .ok (.aload_n 0, 1) := by decide +kernel
theorem dX3_digest_18 : decode cX3_digest 18 = .ok (.iload_n 1, 1) := by decide +kernel
theorem dX3_digest_19 : decode cX3_digest 19 = .ok (.invokevirtual 240, 3) := by decide +kernel
theorem dX3_digest_22 : decode cX3_digest 22 = .ok (.iinc 1 1, 3) := by decide +kernel
theorem dX3_digest_25 : decode cX3_digest 25 = .ok (.goto (-16), 3) := by decide +kernel
theorem dX3_digest_28 : decode cX3_digest 28 = .ok (.aload_n 0, 1) := by decide +kernel
theorem dX3_digest_29 : decode cX3_digest 29 = .ok (.getfield 82, 3) := by decide +kernel
theorem dX3_digest_32 : decode cX3_digest 32 = .ok (.ifCond .le 65, 3) := by decide +kernel
theorem dX3_digest_35 : decode cX3_digest 35 = .ok (.aload_n 0, 1) := by decide +kernel
theorem dX3_digest_36 : decode cX3_digest 36 = .ok (.aload_n 0, 1) := by decide +kernel
theorem dX3_digest_37 : decode cX3_digest 37 = .ok (.invokevirtual 141, 3) := by decide +kernel
theorem dX3_digest_40 : decode cX3_digest 40 = .ok (.i2l, 1) := by decide +kernel
theorem dX3_digest_41 : decode cX3_digest 41 = .ok (.invokevirtual 234, 3) := by decide +kernel
theorem dX3_digest_44 : decode cX3_digest 44 = .ok (.aload_n 0, 1) := by decide +kernel
theorem dX3_digest_45 : decode cX3_digest 45 = .ok (.aload_n 0, 1) := by decide +kernel
theorem dX3_digest_46 : decode cX3_digest 46 = .ok (.bipush 9, 2) := by decide +kernel
theorem dX3_digest_48 : decode cX3_digest 48 = .ok (.iconst 0, 1) := by decide +kernel
theorem dX3_digest_49 : decode cX3_digest 49 = .ok (.invokevirtual 164, 3) := by decide +kernel
theorem dX3_digest_52 : decode cX3_digest 52 = .ok (.i2l, 1) := by decide +kernel
theorem dX3_digest_53 : decode cX3_digest 53 = .ok (.invokevirtual 234, 3) := by decide +kernel
theorem dX3_digest_56 : decode cX3_digest 56 = .ok (.aload_n 0, 1) := by decide +kernel
theorem dX3_digest_57 : decode cX3_digest 57 = .ok (.aload_n 0, 1) := by decide +kernel
theorem dX3_digest_58 : decode cX3_digest 58 = .ok (.bipush 9, 2) := by decide +kernel
theorem dX3_digest_60 : decode cX3_digest 60 = .ok (.iconst 1, 1) := by decide +kernel
theorem dX3_digest_61 : decode cX3_digest 61 = .ok (.invokevirtual 164, 3) := by decide +kernel
theorem dX3_digest_64 : decode cX3_digest 64 = .ok (.i2l, 1) := by decide +kernel
theorem dX3_digest_65 : decode cX3_digest 65 = .ok (.invokevirtual 234, 3) := by decide +kernel
theorem dX3_digest_68 : decode cX3_digest 68 = .ok (.aload_n 0, 1) := by decide +kernel
theorem dX3_digest_69 : decode cX3_digest 69 = .ok (.aload_n 0, 1) := by decide +kernel
theorem dX3_digest_70 : decode cX3_digest 70 = .ok (.iconst 0, 1) := by decide +kernel
theorem dX3_digest_71 : decode cX3_digest 71 = .ok (.invokevirtual 173, 3) := by decide +kernel
theorem dX3_digest_74 : decode cX3_digest 74 = .ok (.i2l, 1) := by decide +kernel
theorem dX3_digest_75 : decode cX3_digest 75 = .ok (.invokevirtual 234, 3) := by decide +kernel
theorem dX3_digest_78 : decode cX3_digest 78 = .ok (.aload_n 0, 1) := by decide +kernel
theorem dX3_digest_79 : decode cX3_digest 79 = .ok (.aload_n 0, 1) := by decide +kernel
theorem dX3_digest_80 : decode cX3_digest 80 = .ok (.iconst 1, 1) := by decide +kernel
theorem dX3_digest_81 : decode cX3_digest 81 = .ok (.invokevirtual 173, 3) := by decide +kernel
theorem dX3_digest_84 : decode cX3_digest 84 = .ok (.i2l, 1) := by decide +kernel
theorem dX3_digest_85 : decode cX3_digest 85 = .ok (.invokevirtual 234, 3) := by decide +kernel
theorem dX3_digest_88 : decode cX3_digest 88 = .ok (.aload_n 0, 1) := by decide +kernel
theorem dX3_digest_89 : decode cX3_digest 89 = .ok (.aload_n 0, 1) := by decide +kernel
theorem dX3_digest_90 : decode cX3_digest 90 = .ok (.invokevirtual 179, 3) := by decide +kernel
theorem dX3_digest_93 : decode cX3_digest 93 = .ok (.i2l, 1) := by decide +kernel
theorem dX3_digest_94 : decode cX3_digest 94 = .ok (.invokevirtual 234, 3) := by decide +kernel
theorem dX3_digest_97 : decode cX3_digest 97 = .ok (.iconst 0, 1) := by decide +kernel
theorem dX3_digest_98 : decode cX3_digest 98 = .ok (.istore_n 1, 1) := by decide +kernel
theorem dX3_digest_99 : decode cX3_digest 99 = .ok (.iload_n 1, 1) := by decide +kernel
theorem dX3_digest_100 : decode cX3_digest 100 = .ok (.aload_n 0, 1) := by decide +kernel
theorem dX3_digest_101 : decode cX3_digest 101 = .ok (.getfield 66, 3) := by decide +kernel
theorem dX3_digest_104 : decode cX3_digest 104 = .ok (.if_icmp .ge 20, 3) := by decide +kernel
theorem dX3_digest_107 : decode cX3_digest 107 = .ok (.aload_n 0, 1) := by decide +kernel
theorem dX3_digest_108 : decode cX3_digest 108 = .ok (.aload_n 0, 1) := by decide +kernel
theorem dX3_digest_109 : decode cX3_digest 109 = .ok (.getfield 34, 3) := by decide +kernel
theorem dX3_digest_112 : decode cX3_digest 112 = .ok (.iload_n 1, 1) := by decide +kernel
theorem dX3_digest_113 : decode cX3_digest 113 = .ok (.baload, 1) := by decide +kernel
theorem dX3_digest_114 : decode cX3_digest 114 = .ok (.i2l, 1) := by decide +kernel
theorem dX3_digest_115 : decode cX3_digest 115 = .ok (.invokevirtual 234, 3) := by decide +kernel
theorem dX3_digest_118 : decode cX3_digest 118 = .ok (.iinc 1 1, 3) := by decide +kernel
theorem dX3_digest_121 : decode cX3_digest 121 = .ok (.goto (-22), 3) := by decide +kernel
theorem dX3_digest_124 : decode cX3_digest 124 = .ok (.iconst 0, 1) := by decide +kernel
theorem dX3_digest_125 : decode cX3_digest 125 = .ok (.istore_n 1, 1) := by decide +kernel
theorem dX3_digest_126 : decode cX3_digest 126 = .ok (.iload_n 1, 1) := by decide +kernel
theorem dX3_digest_127 : decode cX3_digest 127 = .ok (.bipush 10, 2) := by decide +kernel
theorem dX3_digest_129 : decode cX3_digest 129 = .ok (.if_icmp .ge 19, 3) := by decide +kernel
theorem dX3_digest_132 : decode cX3_digest 132 = .ok (.aload_n 0, 1) := by decide +kernel
theorem dX3_digest_133 : decode cX3_digest 133 = .ok (.aload_n 0, 1) := by decide +kernel
theorem dX3_digest_134 : decode cX3_digest 134 = .ok (.iload_n 1, 1) := by decide +kernel
theorem dX3_digest_135 : decode cX3_digest 135 = .ok (.invokevirtual 226, 3) := by decide +kernel
theorem dX3_digest_138 : decode cX3_digest 138 = .ok (.i2l, 1) := by decide +kernel
theorem dX3_digest_139 : decode cX3_digest 139 = .ok (.invokevirtual 234, 3) := by decide +kernel
theorem dX3_digest_142 : decode cX3_digest 142 = .ok (.iinc 1 1, 3) := by decide +kernel
theorem dX3_digest_145 : decode cX3_digest 145 = .ok (.goto (-19), 3) := by decide +kernel
theorem dX3_digest_148 : decode cX3_digest 148 = .ok (.aload_n 0, 1) := by decide +kernel
theorem dX3_digest_149 : decode cX3_digest 149 = .ok (.getfield 231, 3) := by decide +kernel
theorem dX3_digest_152 : decode cX3_digest 152 = .ok (.lreturn, 1) := by decide +kernel
theorem dJ6_bitCount_0f7a4_0 : decode cJ6_bitCount_0f7a4 0 = .ok (.iload_n 0, 1) := by decide +kernel
theorem dJ6_bitCount_0f7a4_1 : decode cJ6_bitCount_0f7a4 1 = .ok (.iload_n 0, 1) := by decide +kernel
theorem dJ6_bitCount_0f7a4_2 : decode cJ6_bitCount_0f7a4 2 = .ok (.iconst 1, 1) := by decide +kernel
theorem dJ6_bitCount_0f7a4_3 : decode cJ6_bitCount_0f7a4 3 = .ok (.iushr, 1) := by decide +kernel
theorem dJ6_bitCount_0f7a4_4 : decode cJ6_bitCount_0f7a4 4 = .ok (.ldc_w 265, 3) := by decide +kernel
theorem dJ6_bitCount_0f7a4_7 : decode cJ6_bitCount_0f7a4 7 = .ok (.iand, 1) := by decide +kernel
theorem dJ6_bitCount_0f7a4_8 : decode cJ6_bitCount_0f7a4 8 = .ok (.isub, 1) := by decide +kernel
theorem dJ6_bitCount_0f7a4_9 : decode cJ6_bitCount_0f7a4 9 = .ok (.istore_n 0, 1) := by decide +kernel
theorem dJ6_bitCount_0f7a4_10 : decode cJ6_bitCount_0f7a4 10 = .ok (.iload_n 0, 1) := by decide +kernel
theorem dJ6_bitCount_0f7a4_11 : decode cJ6_bitCount_0f7a4 11 = .ok (.ldc_w 266, 3) := by decide +kernel
theorem dJ6_bitCount_0f7a4_14 : decode cJ6_bitCount_0f7a4 14 = .ok (.iand, 1) := by decide +kernel
theorem dJ6_bitCount_0f7a4_15 : decode cJ6_bitCount_0f7a4 15 = .ok (.iload_n 0, 1) := by decide +kernel
theorem dJ6_bitCount_0f7a4_16 : decode cJ6_bitCount_0f7a4 16 = .ok (.iconst 2, 1) := by decide +kernel
theorem dJ6_bitCount_0f7a4_17 : decode cJ6_bitCount_0f7a4 17 = .ok (.iushr, 1) := by decide +kernel
theorem dJ6_bitCount_0f7a4_18 : decode cJ6_bitCount_0f7a4 18 = .ok (.ldc_w 266, 3) := by decide +kernel
theorem dJ6_bitCount_0f7a4_21 : decode cJ6_bitCount_0f7a4 21 = .ok (.iand, 1) := by decide +kernel
theorem dJ6_bitCount_0f7a4_22 : decode cJ6_bitCount_0f7a4 22 = .ok (.iadd, 1) := by decide +kernel
theorem dJ6_bitCount_0f7a4_23 : decode cJ6_bitCount_0f7a4 23 = .ok (.istore_n 0, 1) := by decide +kernel
theorem dJ6_bitCount_0f7a4_24 : decode cJ6_bitCount_0f7a4 24 = .ok (.iload_n 0, 1) := by decide +kernel
theorem dJ6_bitCount_0f7a4_25 : decode cJ6_bitCount_0f7a4 25 = .ok (.iload_n 0, 1) := by decide +kernel
theorem dJ6_bitCount_0f7a4_26 : decode cJ6_bitCount_0f7a4 26 = .ok (.iconst 4, 1) := by decide +kernel
theorem dJ6_bitCount_0f7a4_27 : decode cJ6_bitCount_0f7a4 27 = .ok (.iushr, 1) := by decide +kernel
theorem dJ6_bitCount_0f7a4_28 : decode cJ6_bitCount_0f7a4 28 = .ok (.iadd, 1) := by decide +kernel
theorem dJ6_bitCount_0f7a4_29 : decode cJ6_bitCount_0f7a4 29 = .ok (.ldc_w 267, 3) := by decide +kernel
theorem dJ6_bitCount_0f7a4_32 : decode cJ6_bitCount_0f7a4 32 = .ok (.iand, 1) := by decide +kernel
theorem dJ6_bitCount_0f7a4_33 : decode cJ6_bitCount_0f7a4 33 = .ok (.istore_n 0, 1) := by decide +kernel
theorem dJ6_bitCount_0f7a4_34 : decode cJ6_bitCount_0f7a4 34 = .ok (.iload_n 0, 1) := by decide +kernel
theorem dJ6_bitCount_0f7a4_35 : decode cJ6_bitCount_0f7a4 35 = .ok (.iload_n 0, 1) := by decide +kernel
theorem dJ6_bitCount_0f7a4_36 : decode cJ6_bitCount_0f7a4 36 = .ok (.bipush 8, 2) := by decide +kernel
theorem dJ6_bitCount_0f7a4_38 : decode cJ6_bitCount_0f7a4 38 = .ok (.iushr, 1) := by decide +kernel
theorem dJ6_bitCount_0f7a4_39 : decode cJ6_bitCount_0f7a4 39 = .ok (.iadd, 1) := by decide +kernel
theorem dJ6_bitCount_0f7a4_40 : decode cJ6_bitCount_0f7a4 40 = .ok (.istore_n 0, 1) := by decide +kernel
theorem dJ6_bitCount_0f7a4_41 : decode cJ6_bitCount_0f7a4 41 = .ok (.iload_n 0, 1) := by decide +kernel
theorem dJ6_bitCount_0f7a4_42 : decode cJ6_bitCount_0f7a4 42 = .ok (.iload_n 0, 1) := by decide +kernel
theorem dJ6_bitCount_0f7a4_43 : decode cJ6_bitCount_0f7a4 43 = .ok (.bipush 16, 2) := by decide +kernel
theorem dJ6_bitCount_0f7a4_45 : decode cJ6_bitCount_0f7a4 45 = .ok (.iushr, 1) := by decide +kernel
theorem dJ6_bitCount_0f7a4_46 : decode cJ6_bitCount_0f7a4 46 = .ok (.iadd, 1) := by decide +kernel
theorem dJ6_bitCount_0f7a4_47 : decode cJ6_bitCount_0f7a4 47 = .ok (.istore_n 0, 1) := by decide +kernel
theorem dJ6_bitCount_0f7a4_48 : decode cJ6_bitCount_0f7a4 48 = .ok (.iload_n 0, 1) := by decide +kernel
theorem dJ6_bitCount_0f7a4_49 : decode cJ6_bitCount_0f7a4 49 = .ok (.bipush 63, 2) := by decide +kernel
theorem dJ6_bitCount_0f7a4_51 : decode cJ6_bitCount_0f7a4 51 = .ok (.iand, 1) := by decide +kernel
theorem dJ6_bitCount_0f7a4_52 : decode cJ6_bitCount_0f7a4 52 = .ok (.ireturn, 1) := by decide +kernel
theorem dJ9_abs_0f7a4_0 : decode cJ9_abs_0f7a4 0 = .ok (.iload_n 0, 1) := by decide +kernel
theorem dJ9_abs_0f7a4_1 : decode cJ9_abs_0f7a4 1 = .ok (.ifCond .ge 8, 3) := by decide +kernel
theorem dJ9_abs_0f7a4_4 : decode cJ9_abs_0f7a4 4 = .ok (.iload_n 0, 1) := by decide +kernel
theorem dJ9_abs_0f7a4_5 : decode cJ9_abs_0f7a4 5 = .ok (.ineg, 1) := by decide +kernel
theorem dJ9_abs_0f7a4_6 : decode cJ9_abs_0f7a4 6 = .ok (.goto 4, 3) := by decide +kernel
theorem dJ9_abs_0f7a4_9 : decode cJ9_abs_0f7a4 9 = .ok (.iload_n 0, 1) := by decide +kernel
theorem dJ9_abs_0f7a4_10 : decode cJ9_abs_0f7a4 10 = .ok (.ireturn, 1) := by decide +kernel
theorem dJ9_max_7cf53_0 : decode cJ9_max_7cf53 0 = .ok (.iload_n 0, 1) := by decide +kernel
theorem dJ9_max_7cf53_1 : decode cJ9_max_7cf53 1 = .ok (.iload_n 1, 1) := by decide +kernel
theorem dJ9_max_7cf53_2 : decode cJ9_max_7cf53 2 = .ok (.if_icmp .lt 7, 3) := by decide +kernel
theorem dJ9_max_7cf53_5 : decode cJ9_max_7cf53 5 = .ok (.iload_n 0, 1) := by decide +kernel
theorem dJ9_max_7cf53_6 : decode cJ9_max_7cf53 6 = .ok (.goto 4, 3) := by decide +kernel
theorem dJ9_max_7cf53_9 : decode cJ9_max_7cf53 9 = .ok (.iload_n 1, 1) := by decide +kernel
theorem dJ9_max_7cf53_10 : decode cJ9_max_7cf53 10 = .ok (.ireturn, 1) := by decide +kernel
set_option maxRecDepth 20000 in
theorem ggJ0_length_8abf5_J0_coder_7d493 : GoodIn wsJ0_length_8abf5 wsJ0_coder_7d493 := goodIn_r _ [6, 7, 8] (by decide +kernel) (by decide +kernel)
set_option maxRecDepth 20000 in
theorem gJ0_length_8abf5_J0_coder_7d493 : GoodIn wsJ0_length_8abf5 (wsV RJ0 335 RJ0 yJ0_coder_7d493 wsJ0_coder_7d493) := goodIn_app (goodIn_of _ (by decide +kernel)) ggJ0_length_8abf5_J0_coder_7d493
theorem dJ0_length_8abf5_0 : decode cJ0_length_8abf5 0 = .ok (.aload_n 0, 1) := by decide +kernel
theorem dJ0_length_8abf5_1 : decode cJ0_length_8abf5 1 = .ok (.getfield 9, 3) := by decide +kernel
theorem dJ0_length_8abf5_4 : decode cJ0_length_8abf5 4 = .ok (.arraylength, 1) := by decide +kernel
theorem dJ0_length_8abf5_5 : decode cJ0_length_8abf5 5 = .ok (.aload_n 0, 1) := by decide +kernel
theorem dJ0_length_8abf5_6 : decode cJ0_length_8abf5 6 = .ok (.invokevirtual 335, 3) := by decide +kernel
theorem dJ0_length_8abf5_9 : decode cJ0_length_8abf5 9 = .ok (.ishr, 1) := by decide +kernel
theorem dJ0_length_8abf5_10 : decode cJ0_length_8abf5 10 = .ok (.ireturn, 1) := by decide +kernel
set_option maxRecDepth 20000 in
theorem ggJ0_charAt_5068e_J0_isLatin1_aae02 : GoodIn wsJ0_charAt_5068e wsJ0_isLatin1_aae02 := goodIn_r _ [6, 7, 8] (by decide +kernel) (by decide +kernel)
set_option maxRecDepth 20000 in
theorem gJ0_charAt_5068e_J0_isLatin1_aae02 : GoodIn wsJ0_charAt_5068e (wsV RJ0 492 RJ0 yJ0_isLatin1_aae02 wsJ0_isLatin1_aae02) := goodIn_app (goodIn_of _ (by decide +kernel)) ggJ0_charAt_5068e_J0_isLatin1_aae02
set_option maxRecDepth 20000 in
theorem ggJ0_charAt_5068e_J1_charAt_3b067 : GoodIn wsJ0_charAt_5068e wsJ1_charAt_3b067 := goodIn_r _ [12, 13, 14, 5, 15, 16, 17, 18, 19, 20] (by decide +kernel) (by decide +kernel)
set_option maxRecDepth 20000 in
theorem gJ0_charAt_5068e_J1_charAt_3b067 : GoodIn wsJ0_charAt_5068e (va_wsS RJ0 495 yJ1_charAt_3b067 wsJ1_charAt_3b067) := goodIn_app (goodIn_of _ (by decide +kernel)) ggJ0_charAt_5068e_J1_charAt_3b067
set_option maxRecDepth 20000 in
theorem ggJ0_charAt_5068e_J2_charAt_3b067 : GoodIn wsJ0_charAt_5068e wsJ2_charAt_3b067 := goodIn_r _ [24, 25, 26, 23, 27, 28, 29, 30, 31, 14, 5, 15, 16, 17, 18, 19, 20, 32, 33, 34, 35, 36, 37] (by decide +kernel) (by decide +kernel)
set_option maxRecDepth 20000 in
theorem gJ0_charAt_5068e_J2_charAt_3b067 : GoodIn wsJ0_charAt_5068e (va_wsS RJ0 498 yJ2_charAt_3b067 wsJ2_charAt_3b067) := goodIn_app (goodIn_of _ (by decide +kernel)) ggJ0_charAt_5068e_J2_charAt_3b067
theorem dJ0_charAt_5068e_0 : decode cJ0_charAt_5068e 0 = .ok (.aload_n 0, 1) := by decide +kernel
theorem dJ0_charAt_5068e_1 : decode cJ0_charAt_5068e 1 = .ok (.invokevirtual 492, 3) := by decide +kernel
theorem dJ0_charAt_5068e_4 : decode cJ0_charAt_5068e 4 = .ok (.ifCond .eq 12, 3) := by decide +kernel
theorem dJ0_charAt_5068e_7 : decode cJ0_charAt_5068e 7 = .ok (.aload_n 0, 1) := by decide +kernel
theorem dJ0_charAt_5068e_8 : decode cJ0_charAt_5068e 8 = .ok (.getfield 9, 3) := by decide +kernel
theorem dJ0_charAt_5068e_11 : decode cJ0_charAt_5068e 11 = .ok (.iload_n 1, 1) := by decide +kernel
theorem dJ0_charAt_5068e_12 : decode cJ0_charAt_5068e 12 = .ok (.invokestatic 495, 3) := by decide +kernel
theorem dJ0_charAt_5068e_15 : decode cJ0_charAt_5068e 15 = .ok (.ireturn, 1) := by decide +kernel
theorem dJ0_charAt_5068e_16 : decode cJ0_charAt_5068e 16 = .ok (.aload_n 0, 1) := by decide +kernel
theorem dJ0_charAt_5068e_17 : decode cJ0_charAt_5068e 17 = .ok (.getfield 9, 3) := by decide +kernel
theorem dJ0_charAt_5068e_20 : decode cJ0_charAt_5068e 20 = .ok (.iload_n 1, 1) := by decide +kernel
theorem dJ0_charAt_5068e_21 : decode cJ0_charAt_5068e 21 = .ok (.invokestatic 498, 3) := by decide +kernel
theorem dJ0_charAt_5068e_24 : decode cJ0_charAt_5068e 24 = .ok (.ireturn, 1) := by decide +kernel
theorem dJ0_coder_7d493_0 : decode cJ0_coder_7d493 0 = .ok (.getstatic 38, 3) := by decide +kernel
theorem dJ0_coder_7d493_3 : decode cJ0_coder_7d493 3 = .ok (.ifCond .eq 10, 3) := by decide +kernel
theorem dJ0_coder_7d493_6 : decode cJ0_coder_7d493 6 = .ok (.aload_n 0, 1) := by decide +kernel
theorem dJ0_coder_7d493_7 : decode cJ0_coder_7d493 7 = .ok (.getfield 15, 3) := by decide +kernel
theorem dJ0_coder_7d493_10 : decode cJ0_coder_7d493 10 = .ok (.goto 4, 3) := by decide +kernel
theorem dJ0_coder_7d493_13 : decode cJ0_coder_7d493 13 = .ok (.iconst 1, 1) := by decide +kernel
theorem dJ0_coder_7d493_14 : decode cJ0_coder_7d493 14 = .ok (.ireturn, 1) := by decide +kernel
theorem dJ0_isLatin1_aae02_0 : decode cJ0_isLatin1_aae02 0 = .ok (.getstatic 38, 3) := by decide +kernel
theorem dJ0_isLatin1_aae02_3 : decode cJ0_isLatin1_aae02 3 = .ok (.ifCond .eq 14, 3) := by decide +kernel
theorem dJ0_isLatin1_aae02_6 : decode cJ0_isLatin1_aae02 6 = .ok (.aload_n 0, 1) := by decide +kernel
theorem dJ0_isLatin1_aae02_7 : decode cJ0_isLatin1_aae02 7 = .ok (.getfield 15, 3) := by decide +kernel
theorem dJ0_isLatin1_aae02_10 : decode cJ0_isLatin1_aae02 10 = .ok (.ifCond .ne 7, 3) := by decide +kernel
theorem dJ0_isLatin1_aae02_13 : decode cJ0_isLatin1_aae02 13 = .ok (.iconst 1, 1) := by decide +kernel
theorem dJ0_isLatin1_aae02_14 : decode cJ0_isLatin1_aae02 14 = .ok (.goto 4, 3) := by decide +kernel
theorem dJ0_isLatin1_aae02_17 : decode cJ0_isLatin1_aae02 17 = .ok (.iconst 0, 1) := by decide +kernel
theorem dJ0_isLatin1_aae02_18 : decode cJ0_isLatin1_aae02 18 = .ok (.ireturn, 1) := by decide +kernel
set_option maxRecDepth 20000 in
theorem ggJ0_checkIndex_df160_J3_checkIndex_8e157 : GoodIn wsJ0_checkIndex_df160 wsJ3_checkIndex_8e157 := goodIn_r _ [5] (by decide +kernel) (by decide +kernel)
set_option maxRecDepth 20000 in
theorem gJ0_checkIndex_df160_J3_checkIndex_8e157 : GoodIn wsJ0_checkIndex_df160 (va_wsS RJ0 1059 yJ3_checkIndex_8e157 wsJ3_checkIndex_8e157) := goodIn_app (goodIn_of _ (by decide +kernel)) ggJ0_checkIndex_df160_J3_checkIndex_8e157
theorem dJ0_checkIndex_df160_0 : decode cJ0_checkIndex_df160 0 = .ok (.iload_n 0, 1) := by decide +kernel
theorem dJ0_checkIndex_df160_1 : decode cJ0_checkIndex_df160 1 = .ok (.iload_n 1, 1) := by decide +kernel
theorem dJ0_checkIndex_df160_2 : decode cJ0_checkIndex_df160 2 = .ok (.getstatic 1053, 3) := by decide +kernel
theorem dJ0_checkIndex_df160_5 : decode cJ0_checkIndex_df160 5 = .ok (.invokestatic 1059, 3) := by decide +kernel
theorem dJ0_checkIndex_df160_8 : decode cJ0_checkIndex_df160 8 = .ok (.pop, 1) := by decide +kernel
theorem dJ0_checkIndex_df160_9 : decode cJ0_checkIndex_df160 9 = .ok (.return_, 1) := by decide +kernel
set_option maxRecDepth 20000 in
theorem ggJ1_charAt_3b067_J0_checkIndex_df160 : GoodIn wsJ1_charAt_3b067 wsJ0_checkIndex_df160 := goodIn_r _ [4, 5, 6, 7, 8, 9] (by decide +kernel) (by decide +kernel)
set_option maxRecDepth 20000 in
theorem gJ1_charAt_3b067_J0_checkIndex_df160 : GoodIn wsJ1_charAt_3b067 (va_wsS RJ1 9 yJ0_checkIndex_df160 wsJ0_checkIndex_df160) := goodIn_app (goodIn_of _ (by decide +kernel)) ggJ1_charAt_3b067_J0_checkIndex_df160
theorem dJ1_charAt_3b067_0 : decode cJ1_charAt_3b067 0 = .ok (.iload_n 1, 1) := by decide +kernel
theorem dJ1_charAt_3b067_1 : decode cJ1_charAt_3b067 1 = .ok (.aload_n 0, 1) := by decide +kernel
theorem dJ1_charAt_3b067_2 : decode cJ1_charAt_3b067 2 = .ok (.arraylength, 1) := by decide +kernel
theorem dJ1_charAt_3b067_3 : decode cJ1_charAt_3b067 3 = .ok (.invokestatic 9, 3) := by decide +kernel
theorem dJ1_charAt_3b067_6 : decode cJ1_charAt_3b067 6 = .ok (.aload_n 0, 1) := by decide +kernel
theorem dJ1_charAt_3b067_7 : decode cJ1_charAt_3b067 7 = .ok (.iload_n 1, 1) := by decide +kernel
theorem dJ1_charAt_3b067_8 : decode cJ1_charAt_3b067 8 = .ok (.baload, 1) := by decide +kernel
theorem dJ1_charAt_3b067_9 : decode cJ1_charAt_3b067 9 = .ok (.sipush 255, 3) := by decide +kernel
theorem dJ1_charAt_3b067_12 : decode cJ1_charAt_3b067 12 = .ok (.iand, 1) := by decide +kernel
theorem dJ1_charAt_3b067_13 : decode cJ1_charAt_3b067 13 = .ok (.i2c, 1) := by decide +kernel
theorem dJ1_charAt_3b067_14 : decode cJ1_charAt_3b067 14 = .ok (.ireturn, 1) := by decide +kernel
set_option maxRecDepth 20000 in
theorem ggJ2_getChar_3b067_J2_length_9d52b : GoodIn wsJ2_getChar_3b067 wsJ2_length_9d52b := goodIn_r _ [7] (by decide +kernel) (by decide +kernel)
set_option maxRecDepth 20000 in
theorem gJ2_getChar_3b067_J2_length_9d52b : GoodIn wsJ2_getChar_3b067 (va_wsS RJ2 48 yJ2_length_9d52b wsJ2_length_9d52b) := goodIn_app (goodIn_of _ (by decide +kernel)) ggJ2_getChar_3b067_J2_length_9d52b
theorem dJ2_getChar_3b067_0 : decode cJ2_getChar_3b067 0 = .ok (.getstatic 44, 3) := by decide +kernel
theorem dJ2_getChar_3b067_3 : decode cJ2_getChar_3b067 3 = .ok (.ifCond .ne 25, 3) := by decide +kernel
theorem dJ2_getChar_3b067_6 : decode cJ2_getChar_3b067 6 = .ok (.iload_n 1, 1) := by decide +kernel
theorem dJ2_getChar_3b067_7 : decode cJ2_getChar_3b067 7 = .ok (.ifCond .lt 11, 3) := by decide +kernel
theorem dJ2_getChar_3b067_10 : decode cJ2_getChar_3b067 10 = .ok (.iload_n 1, 1) := by decide +kernel
theorem dJ2_getChar_3b067_11 : decode cJ2_getChar_3b067 11 = .ok (.aload_n 0, 1) := by decide +kernel
theorem dJ2_getChar_3b067_12 : decode cJ2_getChar_3b067 12 = .ok (.invokestatic 48, 3) := by decide +kernel
theorem dJ2_getChar_3b067_15 : decode cJ2_getChar_3b067 15 = .ok (.if_icmp .lt 13, 3) := by decide +kernel
theorem dJ2_getChar_3b067_18 : decode cJ2_getChar_3b067 18 = .ok (.new 52, 3) := by decide +kernel
theorem dJ2_getChar_3b067_21 : decode cJ2_getChar_3b067 21 = .ok (.dup, 1) := by decide +kernel
theorem dJ2_getChar_3b067_22 : decode cJ2_getChar_3b067 22 = .ok (.ldc 54, 2) := by decide +kernel
theorem dJ2_getChar_3b067_24 : decode cJ2_getChar_3b067 24 = .ok (.invokespecial 56, 3) := by decide +kernel
theorem dJ2_getChar_3b067_27 : decode cJ2_getChar_3b067 27 = .ok (.athrow, 1) := by decide +kernel
theorem dJ2_getChar_3b067_28 : decode cJ2_getChar_3b067 28 = .ok (.iload_n 1, 1) := by decide +kernel
theorem dJ2_getChar_3b067_29 : decode cJ2_getChar_3b067 29 = .ok (.iconst 1, 1) := by decide +kernel
theorem dJ2_getChar_3b067_30 : decode cJ2_getChar_3b067 30 = .ok (.ishl, 1) := by decide +kernel
theorem dJ2_getChar_3b067_31 : decode cJ2_getChar_3b067 31 = .ok (.istore_n 1, 1) := by decide +kernel
theorem dJ2_getChar_3b067_32 : decode cJ2_getChar_3b067 32 = .ok (.aload_n 0, 1) := by decide +kernel
theorem dJ2_getChar_3b067_33 : decode cJ2_getChar_3b067 33 = .ok (.iload_n 1, 1) := by decide +kernel
theorem dJ2_getChar_3b067_34 : decode cJ2_getChar_3b067 34 = .ok (.iinc 1 1, 3) := by decide +kernel
theorem dJ2_getChar_3b067_37 : decode cJ2_getChar_3b067 37 = .ok (.baload, 1) := by decide +kernel
theorem dJ2_getChar_3b067_38 : decode cJ2_getChar_3b067 38 = .ok (.sipush 255, 3) := by decide +kernel
theorem dJ2_getChar_3b067_41 : decode cJ2_getChar_3b067 41 = .ok (.iand, 1) := by decide +kernel
theorem dJ2_getChar_3b067_42 : decode cJ2_getChar_3b067 42 = .ok (.getstatic 59, 3) := by decide +kernel
theorem dJ2_getChar_3b067_45 : decode cJ2_getChar_3b067 45 = .ok (.ishl, 1) := by decide +kernel
theorem dJ2_getChar_3b067_46 : decode cJ2_getChar_3b067 46 = .ok (.aload_n 0, 1) := by decide +kernel
theorem dJ2_getChar_3b067_47 : decode cJ2_getChar_3b067 47 = .ok (.iload_n 1, 1) := by decide +kernel
theorem dJ2_getChar_3b067_48 : decode cJ2_getChar_3b067 48 = .ok (.baload, 1) := by decide +kernel
theorem dJ2_getChar_3b067_49 : decode cJ2_getChar_3b067 49 = .ok (.sipush 255, 3) := by decide +kernel
theorem dJ2_getChar_3b067_52 : decode cJ2_getChar_3b067 52 = .ok (.iand, 1) := by decide +kernel
theorem dJ2_getChar_3b067_53 : decode cJ2_getChar_3b067 53 = .ok (.getstatic 63, 3) := by decide +kernel
theorem dJ2_getChar_3b067_56 : decode cJ2_getChar_3b067 56 = .ok (.ishl, 1) := by decide +kernel
theorem dJ2_getChar_3b067_57 : decode cJ2_getChar_3b067 57 = .ok (.ior, 1) := by decide +kernel
theorem dJ2_getChar_3b067_58 : decode cJ2_getChar_3b067 58 = .ok (.i2c, 1) := by decide +kernel
theorem dJ2_getChar_3b067_59 : decode cJ2_getChar_3b067 59 = .ok (.ireturn, 1) := by decide +kernel
theorem dJ2_length_9d52b_0 : decode cJ2_length_9d52b 0 = .ok (.aload_n 0, 1) := by decide +kernel
theorem dJ2_length_9d52b_1 : decode cJ2_length_9d52b 1 = .ok (.arraylength, 1) := by decide +kernel
theorem dJ2_length_9d52b_2 : decode cJ2_length_9d52b 2 = .ok (.iconst 1, 1) := by decide +kernel
theorem dJ2_length_9d52b_3 : decode cJ2_length_9d52b 3 = .ok (.ishr, 1) := by decide +kernel
theorem dJ2_length_9d52b_4 : decode cJ2_length_9d52b 4 = .ok (.ireturn, 1) := by decide +kernel
set_option maxRecDepth 20000 in
theorem ggJ2_charAt_3b067_J2_checkIndex_2214a : GoodIn wsJ2_charAt_3b067 wsJ2_checkIndex_2214a := goodIn_r _ [4, 5, 6, 3, 7, 8, 9, 10, 11, 12, 13, 14, 15, 16] (by decide +kernel) (by decide +kernel)
set_option maxRecDepth 20000 in
theorem gJ2_charAt_3b067_J2_checkIndex_2214a : GoodIn wsJ2_charAt_3b067 (va_wsS RJ2 67 yJ2_checkIndex_2214a wsJ2_checkIndex_2214a) := goodIn_app (goodIn_of _ (by decide +kernel)) ggJ2_charAt_3b067_J2_checkIndex_2214a
set_option maxRecDepth 20000 in
theorem ggJ2_charAt_3b067_J2_getChar_3b067 : GoodIn wsJ2_charAt_3b067 wsJ2_getChar_3b067 := goodIn_r _ [19, 20, 21, 22, 5, 6, 3, 7] (by decide +kernel) (by decide +kernel)
set_option maxRecDepth 20000 in
theorem gJ2_charAt_3b067_J2_getChar_3b067 : GoodIn wsJ2_charAt_3b067 (va_wsS RJ2 71 yJ2_getChar_3b067 wsJ2_getChar_3b067) := goodIn_app (goodIn_of _ (by decide +kernel)) ggJ2_charAt_3b067_J2_getChar_3b067
theorem dJ2_charAt_3b067_0 : decode cJ2_charAt_3b067 0 = .ok (.iload_n 1, 1) := by decide +kernel
theorem dJ2_charAt_3b067_1 : decode cJ2_charAt_3b067 1 = .ok (.aload_n 0, 1) := by decide +kernel
theorem dJ2_charAt_3b067_2 : decode cJ2_charAt_3b067 2 = .ok (.invokestatic 67, 3) := by decide +kernel
theorem dJ2_charAt_3b067_5 : decode cJ2_charAt_3b067 5 = .ok (.aload_n 0, 1) := by decide +kernel
theorem dJ2_charAt_3b067_6 : decode cJ2_charAt_3b067 6 = .ok (.iload_n 1, 1) := by decide +kernel
theorem dJ2_charAt_3b067_7 : decode cJ2_charAt_3b067 7 = .ok (.invokestatic 71, 3) := by decide +kernel
theorem dJ2_charAt_3b067_10 : decode cJ2_charAt_3b067 10 = .ok (.ireturn, 1) := by decide +kernel
set_option maxRecDepth 20000 in
theorem ggJ2_checkIndex_2214a_J2_length_9d52b : GoodIn wsJ2_checkIndex_2214a wsJ2_length_9d52b := goodIn_r _ [4] (by decide +kernel) (by decide +kernel)
set_option maxRecDepth 20000 in
theorem gJ2_checkIndex_2214a_J2_length_9d52b : GoodIn wsJ2_checkIndex_2214a (va_wsS RJ2 48 yJ2_length_9d52b wsJ2_length_9d52b) := goodIn_app (goodIn_of _ (by decide +kernel)) ggJ2_checkIndex_2214a_J2_length_9d52b
set_option maxRecDepth 20000 in
theorem ggJ2_checkIndex_2214a_J0_checkIndex_df160 : GoodIn wsJ2_checkIndex_2214a wsJ0_checkIndex_df160 := goodIn_r _ [8, 9, 10, 11, 12, 13] (by decide +kernel) (by decide +kernel)
set_option maxRecDepth 20000 in
theorem gJ2_checkIndex_2214a_J0_checkIndex_df160 : GoodIn wsJ2_checkIndex_2214a (va_wsS RJ2 414 yJ0_checkIndex_df160 wsJ0_checkIndex_df160) := goodIn_app (goodIn_of _ (by decide +kernel)) ggJ2_checkIndex_2214a_J0_checkIndex_df160
theorem dJ2_checkIndex_2214a_0 : decode cJ2_checkIndex_2214a 0 = .ok (.iload_n 0, 1) := by decide +kernel
theorem dJ2_checkIndex_2214a_1 : decode cJ2_checkIndex_2214a 1 = .ok (.aload_n 1, 1) := by decide +kernel
theorem dJ2_checkIndex_2214a_2 : decode cJ2_checkIndex_2214a 2 = .ok (.invokestatic 48, 3) := by decide +kernel
theorem dJ2_checkIndex_2214a_5 : decode cJ2_checkIndex_2214a 5 = .ok (.invokestatic 414, 3) := by decide +kernel
theorem dJ2_checkIndex_2214a_8 : decode cJ2_checkIndex_2214a 8 = .ok (.return_, 1) := by decide +kernel
theorem dJ3_checkIndex_8e157_0 : decode cJ3_checkIndex_8e157 0 = .ok (.iload_n 0, 1) := by decide +kernel
theorem dJ3_checkIndex_8e157_1 : decode cJ3_checkIndex_8e157 1 = .ok (.ifCond .lt 8, 3) := by decide +kernel
theorem dJ3_checkIndex_8e157_4 : decode cJ3_checkIndex_8e157 4 = .ok (.iload_n 0, 1) := by decide +kernel
theorem dJ3_checkIndex_8e157_5 : decode cJ3_checkIndex_8e157 5 = .ok (.iload_n 1, 1) := by decide +kernel
theorem dJ3_checkIndex_8e157_6 : decode cJ3_checkIndex_8e157 6 = .ok (.if_icmp .lt 10, 3) := by decide +kernel
theorem dJ3_checkIndex_8e157_9 : decode cJ3_checkIndex_8e157 9 = .ok (.aload_n 2, 1) := by decide +kernel
theorem dJ3_checkIndex_8e157_10 : decode cJ3_checkIndex_8e157 10 = .ok (.iload_n 0, 1) := by decide +kernel
theorem dJ3_checkIndex_8e157_11 : decode cJ3_checkIndex_8e157 11 = .ok (.iload_n 1, 1) := by decide +kernel
theorem dJ3_checkIndex_8e157_12 : decode cJ3_checkIndex_8e157 12 = .ok (.invokestatic 95, 3) := by decide +kernel
theorem dJ3_checkIndex_8e157_15 : decode cJ3_checkIndex_8e157 15 = .ok (.athrow, 1) := by decide +kernel
theorem dJ3_checkIndex_8e157_16 : decode cJ3_checkIndex_8e157 16 = .ok (.iload_n 0, 1) := by decide +kernel
theorem dJ3_checkIndex_8e157_17 : decode cJ3_checkIndex_8e157 17 = .ok (.ireturn, 1) := by decide +kernel
set_option maxRecDepth 20000 in
theorem ggL_law_X2_init : GoodIn wsL_law wsX2_init := goodIn_r _ [8, 9, 10, 11, 12, 13, 14, 15, 16, 17, 18, 19, 20, 21, 22, 23, 24, 25, 26, 27, 28, 29, 30, 31, 32, 33, 34, 35, 36, 37, 38, 39, 40, 41, 42, 43, 44, 45, 46, 47, 48, 49, 50, 713, 670, 671, 672, 673, 674, 675, 676, 677, 678, 679, 680, 714, 715, 716, 717, 718, 719, 720, 721, 722, 723, 724] (by decide +kernel) (by decide +kernel)
set_option maxRecDepth 20000 in
theorem gL_law_X2_init : GoodIn wsL_law (wsX2_init) := ggL_law_X2_init
set_option maxRecDepth 20000 in
theorem ggL_law_X3_init : GoodIn wsL_law wsX3_init := goodIn_r _ [53, 54, 10, 11, 33, 55, 56, 57, 58, 59, 60, 61, 62, 63, 64, 65, 66, 67, 68, 69, 70, 71, 72, 681, 682, 683, 684, 685, 686, 687, 688, 689, 690, 691, 692, 693, 694, 695, 696, 697, 698, 699, 700, 701, 702, 703, 704, 705, 706, 707, 708, 709, 710, 711, 712] (by decide +kernel) (by decide +kernel)
set_option maxRecDepth 20000 in
theorem gL_law_X3_init : GoodIn wsL_law (wsX3_init) := ggL_law_X3_init
set_option maxRecDepth 20000 in
theorem ggL_law_X2_letter : GoodIn wsL_law wsX2_letter := goodIn_r _ [76, 16, 15, 77, 78, 79, 14, 80, 34, 670, 671, 672, 673, 674, 675, 676, 677, 678, 679, 680, 713] (by decide +kernel) (by decide +kernel)
set_option maxRecDepth 20000 in
theorem gL_law_X2_letter : GoodIn wsL_law (wsV RL 13 RX2 yX2_letter wsX2_letter) := goodIn_app (goodIn_of _ (by decide +kernel)) ggL_law_X2_letter
set_option maxRecDepth 20000 in
theorem ggL_law_X3_letter : GoodIn wsL_law wsX3_letter := goodIn_r _ [84, 85, 64, 86, 87, 5, 88, 681, 682, 683, 684, 685, 686, 687, 688, 689, 690, 691, 692, 693, 694, 695, 696, 697, 698, 699, 700, 701, 702, 703, 704, 705, 706, 707, 708, 709, 710, 711, 712] (by decide +kernel) (by decide +kernel)
set_option maxRecDepth 20000 in
theorem gL_law_X3_letter : GoodIn wsL_law (wsV RL 17 RX3 yX3_letter wsX3_letter) := goodIn_app (goodIn_of _ (by decide +kernel)) ggL_law_X3_letter
set_option maxRecDepth 20000 in
theorem ggL_law_X2_blank : GoodIn wsL_law wsX2_blank := goodIn_r _ [92, 16, 670, 671, 672, 673, 674, 675, 676, 677, 678, 679, 680] (by decide +kernel) (by decide +kernel)
set_option maxRecDepth 20000 in
theorem gL_law_X2_blank : GoodIn wsL_law (wsV RL 18 RX2 yX2_blank wsX2_blank) := goodIn_app (goodIn_of _ (by decide +kernel)) ggL_law_X2_blank
set_option maxRecDepth 20000 in
theorem ggL_law_X3_blank : GoodIn wsL_law wsX3_blank := goodIn_r _ [96, 85, 681, 682, 683, 684, 685, 686, 687, 688, 689, 690, 691, 692, 693, 694, 695, 696, 697, 698, 699, 700, 701, 702, 703, 704, 705, 706, 707, 708, 709, 710, 711, 712] (by decide +kernel) (by decide +kernel)
set_option maxRecDepth 20000 in
theorem gL_law_X3_blank : GoodIn wsL_law (wsV RL 22 RX3 yX3_blank wsX3_blank) := goodIn_app (goodIn_of _ (by decide +kernel)) ggL_law_X3_blank
set_option maxRecDepth 20000 in
theorem ggL_law_X2_fault : GoodIn wsL_law wsX2_fault := goodIn_r _ [100, 16, 15, 101, 102, 103, 14, 104, 34, 105, 106, 2, 107, 108, 109, 110, 111, 112, 113, 114, 115, 116, 117, 118, 119, 120, 121, 122, 123, 124, 125, 126, 127, 128, 129, 130, 131, 132, 133, 134, 135, 136, 137, 138, 139, 140, 141, 142, 143, 144, 145, 146, 147, 148, 149, 150, 151, 152, 153, 154, 155, 156, 157, 158, 159, 670, 671, 672, 673, 674, 675, 676, 677, 678, 679, 680, 713] (by decide +kernel) (by decide +kernel)
set_option maxRecDepth 20000 in
theorem gL_law_X2_fault : GoodIn wsL_law (wsV RL 23 RX2 yX2_fault wsX2_fault) := goodIn_app (goodIn_of _ (by decide +kernel)) ggL_law_X2_fault
set_option maxRecDepth 20000 in
theorem ggL_law_X3_fault : GoodIn wsL_law wsX3_fault := goodIn_r _ [163, 164, 165, 166, 5, 167, 85, 168, 169, 170, 171, 64, 172, 173, 174, 86, 87, 88, 681, 682, 683, 684, 685, 686, 687, 688, 689, 690, 691, 692, 693, 694, 695, 696, 697, 698, 699, 700, 701, 702, 703, 704, 705, 706, 707, 708, 709, 710, 711, 712] (by decide +kernel) (by decide +kernel)
set_option maxRecDepth 20000 in
theorem gL_law_X3_fault : GoodIn wsL_law (wsV RL 26 RX3 yX3_fault wsX3_fault) := goodIn_app (goodIn_of _ (by decide +kernel)) ggL_law_X3_fault
set_option maxRecDepth 20000 in
theorem ggL_law_X2_street : GoodIn wsL_law wsX2_street := goodIn_r _ [178, 17, 23, 19, 15, 25, 16, 18, 179, 180, 181, 2, 182, 183, 98, 99, 100, 101, 102, 103, 14, 104, 34, 105, 106, 107, 108, 109, 110, 111, 112, 113, 114, 115, 116, 117, 118, 119, 120, 121, 122, 123, 124, 125, 126, 127, 128, 129, 130, 131, 132, 133, 134, 135, 136, 137, 138, 139, 140, 141, 142, 143, 144, 145, 146, 147, 148, 149, 150, 151, 152, 153, 154, 155, 156, 157, 158, 159, 184, 185, 186, 22, 187, 38, 39, 40, 41, 45, 188, 189, 190, 191, 77, 78, 79, 80, 670, 671, 672, 673, 674, 675, 676, 677, 678, 679, 680, 714, 715, 716, 717, 718, 719, 720, 721, 722, 723, 724, 713] (by decide +kernel) (by decide +kernel)
set_option maxRecDepth 20000 in
theorem gL_law_X2_street : GoodIn wsL_law (wsV RL 27 RX2 yX2_street wsX2_street) := goodIn_app (goodIn_of _ (by decide +kernel)) ggL_law_X2_street
set_option maxRecDepth 20000 in
theorem ggL_law_X3_street : GoodIn wsL_law wsX3_street := goodIn_r _ [195, 85, 196, 55, 64, 56, 57, 197, 198, 199, 200, 201, 164, 165, 166, 5, 167, 168, 169, 170, 171, 172, 173, 174, 86, 87, 88, 681, 682, 683, 684, 685, 686, 687, 688, 689, 690, 691, 692, 693, 694, 695, 696, 697, 698, 699, 700, 701, 702, 703, 704, 705, 706, 707, 708, 709, 710, 711, 712] (by decide +kernel) (by decide +kernel)
set_option maxRecDepth 20000 in
theorem gL_law_X3_street : GoodIn wsL_law (wsV RL 30 RX3 yX3_street wsX3_street) := goodIn_app (goodIn_of _ (by decide +kernel)) ggL_law_X3_street
set_option maxRecDepth 20000 in
theorem ggL_law_X2_about : GoodIn wsL_law wsX2_about := goodIn_r _ [205, 19, 23, 206, 207, 208, 2, 209, 17, 101, 102, 103, 14, 104, 34, 210, 211, 212, 213, 214, 215, 216, 217, 218, 219, 220, 221, 222, 223, 224, 225, 226, 227, 228, 229, 230, 231, 232, 233, 234, 235, 236, 237, 238, 239, 670, 671, 672, 673, 674, 675, 676, 677, 678, 679, 680, 714, 715, 716, 717, 718, 719, 720, 721, 722, 723, 724, 713] (by decide +kernel) (by decide +kernel)
set_option maxRecDepth 20000 in
theorem gL_law_X2_about : GoodIn wsL_law (wsV RL 31 RX2 yX2_about wsX2_about) := goodIn_app (goodIn_of _ (by decide +kernel)) ggL_law_X2_about
set_option maxRecDepth 20000 in
theorem ggL_law_X3_about : GoodIn wsL_law wsX3_about := goodIn_r _ [243, 244, 245, 246, 5, 247, 196, 86, 87, 88, 248, 249, 250, 251, 55, 56, 57, 252, 253, 254, 255, 256, 257, 258, 259, 260, 261, 262, 263, 200, 60, 198, 59, 264, 265, 266, 267, 268, 269, 270, 271, 58, 272, 273, 274, 275, 681, 682, 683, 684, 685, 686, 687, 688, 689, 690, 691, 692, 693, 694, 695, 696, 697, 698, 699, 700, 701, 702, 703, 704, 705, 706, 707, 708, 709, 710, 711, 712] (by decide +kernel) (by decide +kernel)
set_option maxRecDepth 20000 in
theorem gL_law_X3_about : GoodIn wsL_law (wsV RL 35 RX3 yX3_about wsX3_about) := goodIn_app (goodIn_of _ (by decide +kernel)) ggL_law_X3_about
set_option maxRecDepth 20000 in
theorem ggL_law_X2_as : GoodIn wsL_law wsX2_as := goodIn_r _ [279, 19, 206, 207, 208, 2, 209, 17, 101, 102, 103, 14, 104, 34, 280, 281, 282, 670, 671, 672, 673, 674, 675, 676, 677, 678, 679, 680, 713] (by decide +kernel) (by decide +kernel)
set_option maxRecDepth 20000 in
theorem gL_law_X2_as : GoodIn wsL_law (wsV RL 36 RX2 yX2_as wsX2_as) := goodIn_app (goodIn_of _ (by decide +kernel)) ggL_law_X2_as
set_option maxRecDepth 20000 in
theorem ggL_law_X3_as : GoodIn wsL_law wsX3_as := goodIn_r _ [286, 55, 244, 245, 246, 5, 247, 196, 86, 87, 88, 681, 682, 683, 684, 685, 686, 687, 688, 689, 690, 691, 692, 693, 694, 695, 696, 697, 698, 699, 700, 701, 702, 703, 704, 705, 706, 707, 708, 709, 710, 711, 712] (by decide +kernel) (by decide +kernel)
set_option maxRecDepth 20000 in
theorem gL_law_X3_as : GoodIn wsL_law (wsV RL 39 RX3 yX3_as wsX3_as) := goodIn_app (goodIn_of _ (by decide +kernel)) ggL_law_X3_as
set_option maxRecDepth 20000 in
theorem ggL_law_X2_birth : GoodIn wsL_law wsX2_birth := goodIn_r _ [290, 19, 23, 206, 207, 208, 2, 209, 17, 101, 102, 103, 14, 104, 34, 280, 281, 282, 291, 292, 293, 294, 77, 78, 79, 80, 295, 296, 297, 298, 299, 300, 301, 302, 303, 304, 670, 671, 672, 673, 674, 675, 676, 677, 678, 679, 680, 714, 715, 716, 717, 718, 719, 720, 721, 722, 723, 724, 713] (by decide +kernel) (by decide +kernel)
set_option maxRecDepth 20000 in
theorem gL_law_X2_birth : GoodIn wsL_law (wsV RL 40 RX2 yX2_birth wsX2_birth) := goodIn_app (goodIn_of _ (by decide +kernel)) ggL_law_X2_birth
set_option maxRecDepth 20000 in
theorem ggL_law_X3_birth : GoodIn wsL_law wsX3_birth := goodIn_r _ [308, 57, 199, 244, 245, 246, 5, 247, 196, 86, 87, 88, 309, 310, 311, 312, 55, 313, 314, 315, 316, 56, 317, 318, 319, 320, 681, 682, 683, 684, 685, 686, 687, 688, 689, 690, 691, 692, 693, 694, 695, 696, 697, 698, 699, 700, 701, 702, 703, 704, 705, 706, 707, 708, 709, 710, 711, 712] (by decide +kernel) (by decide +kernel)
set_option maxRecDepth 20000 in
theorem gL_law_X3_birth : GoodIn wsL_law (wsV RL 43 RX3 yX3_birth wsX3_birth) := goodIn_app (goodIn_of _ (by decide +kernel)) ggL_law_X3_birth
set_option maxRecDepth 20000 in
theorem ggL_law_X2_day : GoodIn wsL_law wsX2_day := goodIn_r _ [324, 17, 23, 233, 234, 2, 235, 101, 102, 103, 14, 104, 34, 77, 78, 79, 80, 325, 326, 327, 328, 19, 329, 330, 331, 670, 671, 672, 673, 674, 675, 676, 677, 678, 679, 680, 714, 715, 716, 717, 718, 719, 720, 721, 722, 723, 724, 713] (by decide +kernel) (by decide +kernel)
set_option maxRecDepth 20000 in
theorem gL_law_X2_day : GoodIn wsL_law (wsV RL 44 RX2 yX2_day wsX2_day) := goodIn_app (goodIn_of _ (by decide +kernel)) ggL_law_X2_day
set_option maxRecDepth 20000 in
theorem ggL_law_X3_day : GoodIn wsL_law wsX3_day := goodIn_r _ [335, 196, 198, 58, 56, 336, 337, 338, 5, 339, 55, 681, 682, 683, 684, 685, 686, 687, 688, 689, 690, 691, 692, 693, 694, 695, 696, 697, 698, 699, 700, 701, 702, 703, 704, 705, 706, 707, 708, 709, 710, 711, 712] (by decide +kernel) (by decide +kernel)
set_option maxRecDepth 20000 in
theorem gL_law_X3_day : GoodIn wsL_law (wsV RL 47 RX3 yX3_day wsX3_day) := goodIn_app (goodIn_of _ (by decide +kernel)) ggL_law_X3_day
set_option maxRecDepth 20000 in
theorem ggL_law_X2_then : GoodIn wsL_law wsX2_then := goodIn_r _ [343, 206, 207, 208, 2, 209, 17, 344, 345, 346, 347, 23, 229, 230, 231, 232, 19, 101, 102, 103, 14, 104, 34, 233, 234, 235, 218, 219, 220, 670, 671, 672, 673, 674, 675, 676, 677, 678, 679, 680, 714, 715, 716, 717, 718, 719, 720, 721, 722, 723, 724, 713] (by decide +kernel) (by decide +kernel)
set_option maxRecDepth 20000 in
theorem gL_law_X2_then : GoodIn wsL_law (wsV RL 48 RX2 yX2_then wsX2_then) := goodIn_app (goodIn_of _ (by decide +kernel)) ggL_law_X2_then
set_option maxRecDepth 20000 in
theorem ggL_law_X3_then : GoodIn wsL_law wsX3_then := goodIn_r _ [351, 244, 245, 246, 5, 247, 196, 86, 87, 88, 352, 353, 354, 355, 198, 268, 269, 270, 271, 56, 58, 256, 257, 258, 259, 55, 681, 682, 683, 684, 685, 686, 687, 688, 689, 690, 691, 692, 693, 694, 695, 696, 697, 698, 699, 700, 701, 702, 703, 704, 705, 706, 707, 708, 709, 710, 711, 712] (by decide +kernel) (by decide +kernel)
set_option maxRecDepth 20000 in
theorem gL_law_X3_then : GoodIn wsL_law (wsV RL 51 RX3 yX3_then wsX3_then) := goodIn_app (goodIn_of _ (by decide +kernel)) ggL_law_X3_then
set_option maxRecDepth 20000 in
theorem ggL_law_X2_goesTo : GoodIn wsL_law wsX2_goesTo := goodIn_r _ [359, 344, 345, 346, 2, 347, 17, 23, 225, 226, 227, 228, 229, 230, 231, 232, 19, 101, 102, 103, 14, 104, 34, 233, 234, 235, 218, 219, 220, 670, 671, 672, 673, 674, 675, 676, 677, 678, 679, 680, 714, 715, 716, 717, 718, 719, 720, 721, 722, 723, 724, 713] (by decide +kernel) (by decide +kernel)
set_option maxRecDepth 20000 in
theorem gL_law_X2_goesTo : GoodIn wsL_law (wsV RL 52 RX2 yX2_goesTo wsX2_goesTo) := goodIn_app (goodIn_of _ (by decide +kernel)) ggL_law_X2_goesTo
set_option maxRecDepth 20000 in
theorem ggL_law_X3_goesTo : GoodIn wsL_law wsX3_goesTo := goodIn_r _ [363, 352, 353, 354, 5, 355, 196, 198, 86, 87, 88, 264, 265, 266, 267, 268, 269, 270, 271, 56, 58, 256, 257, 258, 259, 55, 681, 682, 683, 684, 685, 686, 687, 688, 689, 690, 691, 692, 693, 694, 695, 696, 697, 698, 699, 700, 701, 702, 703, 704, 705, 706, 707, 708, 709, 710, 711, 712] (by decide +kernel) (by decide +kernel)
set_option maxRecDepth 20000 in
theorem gL_law_X3_goesTo : GoodIn wsL_law (wsV RL 55 RX3 yX3_goesTo wsX3_goesTo) := goodIn_app (goodIn_of _ (by decide +kernel)) ggL_law_X3_goesTo
set_option maxRecDepth 20000 in
theorem ggL_law_X2_walk : GoodIn wsL_law wsX2_walk := goodIn_r _ [367, 17, 23, 368, 369, 370, 2, 371, 372, 373, 374, 375, 376, 377, 378, 379, 236, 237, 238, 239, 214, 215, 216, 217, 19, 101, 102, 103, 14, 104, 34, 218, 219, 220, 670, 671, 672, 673, 674, 675, 676, 677, 678, 679, 680, 714, 715, 716, 717, 718, 719, 720, 721, 722, 723, 724, 713] (by decide +kernel) (by decide +kernel)
set_option maxRecDepth 20000 in
theorem gL_law_X2_walk : GoodIn wsL_law (wsV RL 56 RX2 yX2_walk wsX2_walk) := goodIn_app (goodIn_of _ (by decide +kernel)) ggL_law_X2_walk
set_option maxRecDepth 20000 in
theorem ggL_law_X3_walk : GoodIn wsL_law wsX3_walk := goodIn_r _ [383, 196, 384, 385, 386, 5, 387, 272, 273, 274, 275, 252, 253, 254, 255, 56, 256, 257, 258, 259, 55, 681, 682, 683, 684, 685, 686, 687, 688, 689, 690, 691, 692, 693, 694, 695, 696, 697, 698, 699, 700, 701, 702, 703, 704, 705, 706, 707, 708, 709, 710, 711, 712] (by decide +kernel) (by decide +kernel)
set_option maxRecDepth 20000 in
theorem gL_law_X3_walk : GoodIn wsL_law (wsV RL 59 RX3 yX3_walk wsX3_walk) := goodIn_app (goodIn_of _ (by decide +kernel)) ggL_law_X3_walk
set_option maxRecDepth 20000 in
theorem ggL_law_X2_debt : GoodIn wsL_law wsX2_debt := goodIn_r _ [391, 17, 23, 77, 78, 79, 14, 80, 34, 670, 671, 672, 673, 674, 675, 676, 677, 678, 679, 680, 714, 715, 716, 717, 718, 719, 720, 721, 722, 723, 724, 713] (by decide +kernel) (by decide +kernel)
set_option maxRecDepth 20000 in
theorem gL_law_X2_debt : GoodIn wsL_law (wsV RL 60 RX2 yX2_debt wsX2_debt) := goodIn_app (goodIn_of _ (by decide +kernel)) ggL_law_X2_debt
set_option maxRecDepth 20000 in
theorem ggL_law_X3_debt : GoodIn wsL_law wsX3_debt := goodIn_r _ [395, 196, 200, 59, 60, 86, 87, 5, 88, 681, 682, 683, 684, 685, 686, 687, 688, 689, 690, 691, 692, 693, 694, 695, 696, 697, 698, 699, 700, 701, 702, 703, 704, 705, 706, 707, 708, 709, 710, 711, 712] (by decide +kernel) (by decide +kernel)
set_option maxRecDepth 20000 in
theorem gL_law_X3_debt : GoodIn wsL_law (wsV RL 63 RX3 yX3_debt wsX3_debt) := goodIn_app (goodIn_of _ (by decide +kernel)) ggL_law_X3_debt
set_option maxRecDepth 20000 in
theorem ggL_law_X2_pay : GoodIn wsL_law wsX2_pay := goodIn_r _ [399, 23, 101, 102, 103, 14, 104, 34, 670, 671, 672, 673, 674, 675, 676, 677, 678, 679, 680, 714, 715, 716, 717, 718, 719, 720, 721, 722, 723, 724, 713] (by decide +kernel) (by decide +kernel)
set_option maxRecDepth 20000 in
theorem gL_law_X2_pay : GoodIn wsL_law (wsV RL 64 RX2 yX2_pay wsX2_pay) := goodIn_app (goodIn_of _ (by decide +kernel)) ggL_law_X2_pay
set_option maxRecDepth 20000 in
theorem ggL_law_X3_pay : GoodIn wsL_law wsX3_pay := goodIn_r _ [403, 200, 59, 681, 682, 683, 684, 685, 686, 687, 688, 689, 690, 691, 692, 693, 694, 695, 696, 697, 698, 699, 700, 701, 702, 703, 704, 705, 706, 707, 708, 709, 710, 711, 712] (by decide +kernel) (by decide +kernel)
set_option maxRecDepth 20000 in
theorem gL_law_X3_pay : GoodIn wsL_law (wsV RL 67 RX3 yX3_pay wsX3_pay) := goodIn_app (goodIn_of _ (by decide +kernel)) ggL_law_X3_pay
set_option maxRecDepth 20000 in
theorem ggL_law_X2_cheap : GoodIn wsL_law wsX2_cheap := goodIn_r _ [407, 17, 408, 409, 410, 2, 411, 412, 413, 414, 415, 416, 417, 418, 419, 420, 421, 422, 19, 423, 424, 425, 101, 102, 103, 14, 104, 34, 280, 281, 282, 426, 427, 428, 429, 26, 23, 430, 431, 432, 433, 303, 291, 292, 293, 294, 77, 78, 79, 80, 295, 296, 297, 298, 206, 207, 208, 209, 434, 435, 436, 437, 214, 215, 216, 217, 218, 219, 220, 670, 671, 672, 673, 674, 675, 676, 677, 678, 679, 680, 713, 714, 715, 716, 717, 718, 719, 720, 721, 722, 723, 724] (by decide +kernel) (by decide +kernel)
set_option maxRecDepth 20000 in
theorem gL_law_X2_cheap : GoodIn wsL_law (wsV RL 68 RX2 yX2_cheap wsX2_cheap) := goodIn_app (goodIn_of _ (by decide +kernel)) ggL_law_X2_cheap
set_option maxRecDepth 20000 in
theorem ggL_law_X3_cheap : GoodIn wsL_law wsX3_cheap := goodIn_r _ [441, 196, 86, 87, 5, 88, 442, 443, 444, 445, 446, 447, 448, 449, 65, 56, 450, 451, 452, 453, 454, 455, 456, 457, 458, 459, 460, 309, 310, 311, 312, 55, 313, 314, 315, 316, 317, 318, 319, 320, 461, 462, 463, 464, 252, 253, 254, 255, 256, 257, 258, 259, 465, 466, 467, 468, 681, 682, 683, 684, 685, 686, 687, 688, 689, 690, 691, 692, 693, 694, 695, 696, 697, 698, 699, 700, 701, 702, 703, 704, 705, 706, 707, 708, 709, 710, 711, 712] (by decide +kernel) (by decide +kernel)
set_option maxRecDepth 20000 in
theorem gL_law_X3_cheap : GoodIn wsL_law (wsV RL 71 RX3 yX3_cheap wsX3_cheap) := goodIn_app (goodIn_of _ (by decide +kernel)) ggL_law_X3_cheap
set_option maxRecDepth 20000 in
theorem ggL_law_X2_when : GoodIn wsL_law wsX2_when := goodIn_r _ [472, 19, 23, 206, 207, 208, 2, 209, 17, 101, 102, 103, 14, 104, 34, 218, 219, 220, 329, 330, 331, 670, 671, 672, 673, 674, 675, 676, 677, 678, 679, 680, 714, 715, 716, 717, 718, 719, 720, 721, 722, 723, 724, 713] (by decide +kernel) (by decide +kernel)
set_option maxRecDepth 20000 in
theorem gL_law_X2_when : GoodIn wsL_law (wsV RL 72 RX2 yX2_when wsX2_when) := goodIn_app (goodIn_of _ (by decide +kernel)) ggL_law_X2_when
set_option maxRecDepth 20000 in
theorem ggL_law_X3_when : GoodIn wsL_law wsX3_when := goodIn_r _ [476, 244, 245, 246, 5, 247, 196, 86, 87, 88, 477, 478, 479, 480, 55, 56, 256, 257, 258, 259, 681, 682, 683, 684, 685, 686, 687, 688, 689, 690, 691, 692, 693, 694, 695, 696, 697, 698, 699, 700, 701, 702, 703, 704, 705, 706, 707, 708, 709, 710, 711, 712] (by decide +kernel) (by decide +kernel)
set_option maxRecDepth 20000 in
theorem gL_law_X3_when : GoodIn wsL_law (wsV RL 75 RX3 yX3_when wsX3_when) := goodIn_app (goodIn_of _ (by decide +kernel)) ggL_law_X3_when
set_option maxRecDepth 20000 in
theorem ggL_law_X2_hear : GoodIn wsL_law wsX2_hear := goodIn_r _ [484, 23, 206, 207, 208, 2, 209, 17, 77, 78, 79, 14, 80, 34, 670, 671, 672, 673, 674, 675, 676, 677, 678, 679, 680, 714, 715, 716, 717, 718, 719, 720, 721, 722, 723, 724, 713] (by decide +kernel) (by decide +kernel)
set_option maxRecDepth 20000 in
theorem gL_law_X2_hear : GoodIn wsL_law (wsV RL 76 RX2 yX2_hear wsX2_hear) := goodIn_app (goodIn_of _ (by decide +kernel)) ggL_law_X2_hear
set_option maxRecDepth 20000 in
theorem ggL_law_X3_hear : GoodIn wsL_law wsX3_hear := goodIn_r _ [488, 201, 61, 62, 244, 245, 246, 5, 247, 196, 86, 87, 88, 681, 682, 683, 684, 685, 686, 687, 688, 689, 690, 691, 692, 693, 694, 695, 696, 697, 698, 699, 700, 701, 702, 703, 704, 705, 706, 707, 708, 709, 710, 711, 712] (by decide +kernel) (by decide +kernel)
set_option maxRecDepth 20000 in
theorem gL_law_X3_hear : GoodIn wsL_law (wsV RL 79 RX3 yX3_hear wsX3_hear) := goodIn_app (goodIn_of _ (by decide +kernel)) ggL_law_X3_hear
set_option maxRecDepth 20000 in
theorem ggL_law_X2_forget : GoodIn wsL_law wsX2_forget := goodIn_r _ [492, 23, 670, 671, 672, 673, 674, 675, 676, 677, 678, 679, 680, 714, 715, 716, 717, 718, 719, 720, 721, 722, 723, 724] (by decide +kernel) (by decide +kernel)
set_option maxRecDepth 20000 in
theorem gL_law_X2_forget : GoodIn wsL_law (wsV RL 80 RX2 yX2_forget wsX2_forget) := goodIn_app (goodIn_of _ (by decide +kernel)) ggL_law_X2_forget
set_option maxRecDepth 20000 in
theorem ggL_law_X3_forget : GoodIn wsL_law wsX3_forget := goodIn_r _ [496, 201, 681, 682, 683, 684, 685, 686, 687, 688, 689, 690, 691, 692, 693, 694, 695, 696, 697, 698, 699, 700, 701, 702, 703, 704, 705, 706, 707, 708, 709, 710, 711, 712] (by decide +kernel) (by decide +kernel)
set_option maxRecDepth 20000 in
theorem gL_law_X3_forget : GoodIn wsL_law (wsV RL 83 RX3 yX3_forget wsX3_forget) := goodIn_app (goodIn_of _ (by decide +kernel)) ggL_law_X3_forget
set_option maxRecDepth 20000 in
theorem ggL_law_X2_days : GoodIn wsL_law wsX2_days := goodIn_r _ [500, 17, 23, 501, 502, 503, 2, 504, 101, 102, 103, 14, 104, 34, 229, 230, 231, 232, 19, 233, 234, 235, 218, 219, 220, 670, 671, 672, 673, 674, 675, 676, 677, 678, 679, 680, 714, 715, 716, 717, 718, 719, 720, 721, 722, 723, 724, 713] (by decide +kernel) (by decide +kernel)
set_option maxRecDepth 20000 in
theorem gL_law_X2_days : GoodIn wsL_law (wsV RL 84 RX2 yX2_days wsX2_days) := goodIn_app (goodIn_of _ (by decide +kernel)) ggL_law_X2_days
set_option maxRecDepth 20000 in
theorem ggL_law_X3_days : GoodIn wsL_law wsX3_days := goodIn_r _ [508, 196, 86, 87, 5, 88, 509, 510, 511, 512, 198, 513, 514, 515, 516, 201, 61, 62, 268, 269, 270, 271, 56, 58, 256, 257, 258, 259, 55, 681, 682, 683, 684, 685, 686, 687, 688, 689, 690, 691, 692, 693, 694, 695, 696, 697, 698, 699, 700, 701, 702, 703, 704, 705, 706, 707, 708, 709, 710, 711, 712] (by decide +kernel) (by decide +kernel)
set_option maxRecDepth 20000 in
theorem gL_law_X3_days : GoodIn wsL_law (wsV RL 87 RX3 yX3_days wsX3_days) := goodIn_app (goodIn_of _ (by decide +kernel)) ggL_law_X3_days
set_option maxRecDepth 20000 in
theorem ggL_law_X2_ask : GoodIn wsL_law wsX2_ask := goodIn_r _ [520, 17, 521, 522, 523, 2, 524, 23, 27, 501, 502, 503, 504, 101, 102, 103, 14, 104, 34, 229, 230, 231, 232, 19, 233, 234, 235, 218, 219, 220, 77, 78, 79, 80, 525, 526, 527, 528, 28, 529, 530, 374, 531, 532, 189, 190, 191, 299, 300, 301, 302, 303, 304, 670, 671, 672, 673, 674, 675, 676, 677, 678, 679, 680, 714, 715, 716, 717, 718, 719, 720, 721, 722, 723, 724, 713] (by decide +kernel) (by decide +kernel)
set_option maxRecDepth 20000 in
theorem gL_law_X2_ask : GoodIn wsL_law (wsV RL 88 RX2 yX2_ask wsX2_ask) := goodIn_app (goodIn_of _ (by decide +kernel)) ggL_law_X2_ask
set_option maxRecDepth 20000 in
theorem ggL_law_X3_ask : GoodIn wsL_law wsX3_ask := goodIn_r _ [536, 196, 537, 538, 539, 5, 540, 457, 509, 510, 511, 512, 198, 513, 514, 515, 516, 201, 61, 62, 268, 269, 270, 271, 56, 58, 256, 257, 258, 259, 55, 541, 542, 543, 544, 681, 682, 683, 684, 685, 686, 687, 688, 689, 690, 691, 692, 693, 694, 695, 696, 697, 698, 699, 700, 701, 702, 703, 704, 705, 706, 707, 708, 709, 710, 711, 712] (by decide +kernel) (by decide +kernel)
set_option maxRecDepth 20000 in
theorem gL_law_X3_ask : GoodIn wsL_law (wsV RL 91 RX3 yX3_ask wsX3_ask) := goodIn_app (goodIn_of _ (by decide +kernel)) ggL_law_X3_ask
set_option maxRecDepth 20000 in
theorem ggL_law_X2_years : GoodIn wsL_law wsX2_years := goodIn_r _ [548, 17, 26, 23, 430, 431, 432, 14, 433, 34, 303, 102, 103, 104, 549, 550, 2, 551, 552, 553, 554, 555, 556, 557, 558, 559, 560, 561, 562, 563, 19, 101, 280, 281, 282, 291, 292, 293, 294, 77, 78, 79, 80, 295, 296, 297, 298, 206, 207, 208, 209, 368, 369, 370, 371, 372, 373, 374, 375, 376, 377, 378, 379, 236, 237, 238, 239, 214, 215, 216, 217, 218, 219, 220, 325, 326, 327, 328, 329, 330, 331, 434, 435, 436, 437, 670, 671, 672, 673, 674, 675, 676, 677, 678, 679, 680, 714, 715, 716, 717, 718, 719, 720, 721, 722, 723, 724, 713] (by decide +kernel) (by decide +kernel)
set_option maxRecDepth 20000 in
theorem gL_law_X2_years : GoodIn wsL_law (wsV RL 92 RX2 yX2_years wsX2_years) := goodIn_app (goodIn_of _ (by decide +kernel)) ggL_law_X2_years
set_option maxRecDepth 20000 in
theorem ggL_law_X3_years : GoodIn wsL_law wsX3_years := goodIn_r _ [567, 196, 86, 87, 5, 88, 568, 569, 570, 571, 572, 446, 447, 448, 449, 65, 56, 573, 574, 575, 576, 577, 578, 579, 580, 309, 310, 311, 312, 55, 313, 314, 315, 316, 317, 318, 319, 320, 384, 385, 386, 387, 272, 273, 274, 275, 252, 253, 254, 255, 256, 257, 258, 259, 336, 337, 338, 339, 461, 462, 463, 464, 465, 466, 467, 468, 681, 682, 683, 684, 685, 686, 687, 688, 689, 690, 691, 692, 693, 694, 695, 696, 697, 698, 699, 700, 701, 702, 703, 704, 705, 706, 707, 708, 709, 710, 711, 712] (by decide +kernel) (by decide +kernel)
set_option maxRecDepth 20000 in
theorem gL_law_X3_years : GoodIn wsL_law (wsV RL 96 RX3 yX3_years wsX3_years) := goodIn_app (goodIn_of _ (by decide +kernel)) ggL_law_X3_years
set_option maxRecDepth 20000 in
theorem ggL_law_X2_image : GoodIn wsL_law wsX2_image := goodIn_r _ [584, 17, 24, 23, 25, 585, 586, 587, 22, 588, 38, 39, 40, 41, 43, 44, 45, 46, 47, 48, 49, 589, 431, 432, 14, 433, 34, 303, 102, 103, 104, 670, 671, 672, 673, 674, 675, 676, 677, 678, 679, 680, 714, 715, 716, 717, 718, 719, 720, 721, 722, 723, 724, 713] (by decide +kernel) (by decide +kernel)
set_option maxRecDepth 20000 in
theorem gL_law_X2_image : GoodIn wsL_law (wsV RL 97 RX2 yX2_image wsX2_image) := goodIn_app (goodIn_of _ (by decide +kernel)) ggL_law_X2_image
set_option maxRecDepth 20000 in
theorem ggL_law_X3_image : GoodIn wsL_law wsX3_image := goodIn_r _ [593, 196, 594, 197, 595, 198, 596, 199, 597, 200, 598, 201, 599, 66, 56, 67, 57, 69, 59, 70, 60, 71, 61, 72, 62, 68, 58, 681, 682, 683, 684, 685, 686, 687, 688, 689, 690, 691, 692, 693, 694, 695, 696, 697, 698, 699, 700, 701, 702, 703, 704, 705, 706, 707, 708, 709, 710, 711, 712] (by decide +kernel) (by decide +kernel)
set_option maxRecDepth 20000 in
theorem gL_law_X3_image : GoodIn wsL_law (wsV RL 100 RX3 yX3_image wsX3_image) := goodIn_app (goodIn_of _ (by decide +kernel)) ggL_law_X3_image
set_option maxRecDepth 20000 in
theorem ggL_law_X2_restore : GoodIn wsL_law wsX2_restore := goodIn_r _ [603, 25, 23, 24, 585, 586, 587, 22, 588, 38, 39, 40, 41, 43, 44, 45, 46, 47, 48, 49, 589, 431, 432, 14, 433, 34, 303, 102, 103, 104, 670, 671, 672, 673, 674, 675, 676, 677, 678, 679, 680, 714, 715, 716, 717, 718, 719, 720, 721, 722, 723, 724, 713] (by decide +kernel) (by decide +kernel)
set_option maxRecDepth 20000 in
theorem gL_law_X2_restore : GoodIn wsL_law (wsV RL 101 RX2 yX2_restore wsX2_restore) := goodIn_app (goodIn_of _ (by decide +kernel)) ggL_law_X2_restore
set_option maxRecDepth 20000 in
theorem ggL_law_X3_restore : GoodIn wsL_law wsX3_restore := goodIn_r _ [607, 594, 595, 197, 596, 198, 597, 199, 598, 200, 599, 201, 56, 66, 57, 67, 59, 69, 60, 70, 61, 71, 62, 72, 58, 68, 681, 682, 683, 684, 685, 686, 687, 688, 689, 690, 691, 692, 693, 694, 695, 696, 697, 698, 699, 700, 701, 702, 703, 704, 705, 706, 707, 708, 709, 710, 711, 712] (by decide +kernel) (by decide +kernel)
set_option maxRecDepth 20000 in
theorem gL_law_X3_restore : GoodIn wsL_law (wsV RL 104 RX3 yX3_restore wsX3_restore) := goodIn_app (goodIn_of _ (by decide +kernel)) ggL_law_X3_restore
set_option maxRecDepth 20000 in
theorem ggL_law_X2_count : GoodIn wsL_law wsX2_count := goodIn_r _ [611, 17, 23, 16, 18, 434, 435, 436, 2, 437, 214, 215, 216, 217, 19, 101, 102, 103, 14, 104, 34, 218, 219, 220, 612, 613, 614, 615, 210, 211, 212, 213, 225, 226, 227, 228, 229, 230, 231, 232, 233, 234, 235, 616, 617, 618, 619, 221, 222, 223, 224, 670, 671, 672, 673, 674, 675, 676, 677, 678, 679, 680, 714, 715, 716, 717, 718, 719, 720, 721, 722, 723, 724, 713] (by decide +kernel) (by decide +kernel)
set_option maxRecDepth 20000 in
theorem gL_law_X2_count : GoodIn wsL_law (wsV RL 105 RX2 yX2_count wsX2_count) := goodIn_app (goodIn_of _ (by decide +kernel)) ggL_law_X2_count
set_option maxRecDepth 20000 in
theorem ggL_law_X3_count : GoodIn wsL_law wsX3_count := goodIn_r _ [623, 624, 625, 626, 5, 627, 196, 198, 199, 200, 201, 85, 197, 461, 462, 463, 464, 252, 253, 254, 255, 56, 256, 257, 258, 259, 55, 628, 629, 630, 631, 264, 265, 266, 267, 268, 269, 270, 271, 58, 632, 633, 634, 635, 260, 261, 262, 263, 60, 59, 681, 682, 683, 684, 685, 686, 687, 688, 689, 690, 691, 692, 693, 694, 695, 696, 697, 698, 699, 700, 701, 702, 703, 704, 705, 706, 707, 708, 709, 710, 711, 712] (by decide +kernel) (by decide +kernel)
set_option maxRecDepth 20000 in
theorem gL_law_X3_count : GoodIn wsL_law (wsV RL 108 RX3 yX3_count wsX3_count) := goodIn_app (goodIn_of _ (by decide +kernel)) ggL_law_X3_count
set_option maxRecDepth 20000 in
theorem ggL_law_X2_digest : GoodIn wsL_law wsX2_digest := goodIn_r _ [639, 640, 17, 16, 15, 641, 642, 643, 2, 644, 23, 645, 203, 204, 205, 19, 206, 207, 208, 209, 101, 102, 103, 14, 104, 34, 210, 211, 212, 213, 214, 215, 216, 217, 218, 219, 220, 221, 222, 223, 224, 225, 226, 227, 228, 229, 230, 231, 232, 233, 234, 235, 236, 237, 238, 239, 646, 647, 648, 649, 650, 365, 366, 367, 368, 369, 370, 371, 372, 373, 374, 375, 376, 377, 378, 379, 651, 405, 406, 407, 408, 409, 410, 411, 412, 413, 414, 415, 416, 417, 418, 419, 420, 421, 422, 423, 424, 425, 280, 281, 282, 426, 427, 428, 429, 26, 430, 431, 432, 433, 303, 291, 292, 293, 294, 77, 78, 79, 80, 295, 296, 297, 298, 434, 435, 436, 437, 652, 498, 499, 500, 501, 502, 503, 504, 653, 518, 519, 520, 521, 522, 523, 524, 27, 525, 526, 527, 528, 28, 529, 530, 531, 532, 189, 190, 191, 299, 300, 301, 302, 304, 654, 609, 610, 611, 18, 612, 613, 614, 615, 616, 617, 618, 619, 670, 671, 672, 673, 674, 675, 676, 677, 678, 679, 680, 714, 715, 716, 717, 718, 719, 720, 721, 722, 723, 724, 713] (by decide +kernel) (by decide +kernel)
set_option maxRecDepth 20000 in
theorem gL_law_X2_digest : GoodIn wsL_law (wsV RL 109 RX2 yX2_digest wsX2_digest) := goodIn_app (goodIn_of _ (by decide +kernel)) ggL_law_X2_digest
set_option maxRecDepth 20000 in
theorem ggL_law_X3_digest : GoodIn wsL_law wsX3_digest := goodIn_r _ [658, 659, 660, 196, 85, 64, 661, 662, 663, 5, 664, 198, 248, 249, 250, 251, 55, 56, 57, 252, 253, 254, 255, 256, 257, 258, 259, 260, 261, 262, 263, 200, 60, 59, 264, 265, 266, 267, 268, 269, 270, 271, 58, 272, 273, 274, 275, 665, 666, 667, 668, 669, 384, 385, 386, 387, 442, 443, 444, 445, 446, 447, 448, 449, 65, 450, 451, 452, 453, 454, 455, 456, 457, 458, 459, 460, 309, 310, 311, 312, 313, 314, 315, 316, 317, 318, 319, 320, 461, 462, 463, 464, 465, 466, 467, 468, 509, 510, 511, 512, 513, 514, 515, 516, 201, 61, 62, 537, 538, 539, 540, 541, 542, 543, 544, 624, 625, 626, 627, 199, 197, 628, 629, 630, 631, 632, 633, 634, 635, 681, 682, 683, 684, 685, 686, 687, 688, 689, 690, 691, 692, 693, 694, 695, 696, 697, 698, 699, 700, 701, 702, 703, 704, 705, 706, 707, 708, 709, 710, 711, 712] (by decide +kernel) (by decide +kernel)
set_option maxRecDepth 20000 in
theorem gL_law_X3_digest : GoodIn wsL_law (wsV RL 113 RX3 yX3_digest wsX3_digest) := goodIn_app (goodIn_of _ (by decide +kernel)) ggL_law_X3_digest
theorem dL_law_0 : decode cL_law 0 = .ok (.new 7, 3) := by decide +kernel
theorem dL_law_3 : decode cL_law 3 = .ok (.dup, 1) := by decide +kernel
theorem dL_law_4 : decode cL_law 4 = .ok (.invokespecial 9, 3) := by decide +kernel
theorem dL_law_7 : decode cL_law 7 = .ok (.astore_n 1, 1) := by decide +kernel
theorem dL_law_8 : decode cL_law 8 = .ok (.new 10, 3) := by decide +kernel
theorem dL_law_11 : decode cL_law 11 = .ok (.dup, 1) := by decide +kernel
theorem dL_law_12 : decode cL_law 12 = .ok (.invokespecial 12, 3) := by decide +kernel
theorem dL_law_15 : decode cL_law 15 = .ok (.astore_n 2, 1) := by decide +kernel
theorem dL_law_16 : decode cL_law 16 = .ok (.iconst 0, 1) := by decide +kernel
theorem dL_law_17 : decode cL_law 17 = .ok (.istore_n 3, 1) := by decide +kernel
theorem dL_law_18 : decode cL_law 18 = .ok (.iload_n 3, 1) := by decide +kernel
theorem dL_law_19 : decode cL_law 19 = .ok (.aload_n 0, 1) := by decide +kernel
theorem dL_law_20 : decode cL_law 20 = .ok (.arraylength, 1) := by decide +kernel
theorem dL_law_21 : decode cL_law 21 = .ok (.iconst 4, 1) := by decide +kernel
theorem dL_law_22 : decode cL_law 22 = .ok (.isub, 1) := by decide +kernel
theorem dL_law_23 : decode cL_law 23 = .ok (.if_icmp .gt 670, 3) := by decide +kernel
theorem dL_law_26 : decode cL_law 26 = .ok (.aload_n 0, 1) := by decide +kernel
theorem dL_law_27 : decode cL_law 27 = .ok (.iload_n 3, 1) := by decide +kernel
theorem dL_law_28 : decode cL_law 28 = .ok (.iaload, 1) := by decide +kernel
theorem dL_law_29 : decode cL_law 29 = .ok (.bipush 31, 2) := by decide +kernel
theorem dL_law_31 : decode cL_law 31 = .ok (.iand, 1) := by decide +kernel
theorem dL_law_32 : decode cL_law 32 = .ok (.tableswitch 655 0 23 #[112, 135, 148, 161, 174, 207, 240, 263, 276, 309, 342, 355, 388, 401, 434, 467, 500, 513, 536, 549, 592, 605, 618, 641], 112) := by decide +kernel
theorem dL_law_144 : decode cL_law 144 = .ok (.aload_n 1, 1) := by decide +kernel
theorem dL_law_145 : decode cL_law 145 = .ok (.aload_n 0, 1) := by decide +kernel
theorem dL_law_146 : decode cL_law 146 = .ok (.iload_n 3, 1) := by decide +kernel
theorem dL_law_147 : decode cL_law 147 = .ok (.iconst 1, 1) := by decide +kernel
theorem dL_law_148 : decode cL_law 148 = .ok (.iadd, 1) := by decide +kernel
theorem dL_law_149 : decode cL_law 149 = .ok (.iaload, 1) := by decide +kernel
theorem dL_law_150 : decode cL_law 150 = .ok (.invokevirtual 13, 3) := by decide +kernel
theorem dL_law_153 : decode cL_law 153 = .ok (.aload_n 2, 1) := by decide +kernel
theorem dL_law_154 : decode cL_law 154 = .ok (.aload_n 0, 1) := by decide +kernel
theorem dL_law_155 : decode cL_law 155 = .ok (.iload_n 3, 1) := by decide +kernel
theorem dL_law_156 : decode cL_law 156 = .ok (.iconst 1, 1) := by decide +kernel
theorem dL_law_157 : decode cL_law 157 = .ok (.iadd, 1) := by decide +kernel
theorem dL_law_158 : decode cL_law 158 = .ok (.iaload, 1) := by decide +kernel
theorem dL_law_159 : decode cL_law 159 = .ok (.invokevirtual 17, 3) := by decide +kernel
theorem dL_law_162 : decode cL_law 162 = .ok (.if_icmp .eq 525, 3) := by decide +kernel
theorem dL_law_165 : decode cL_law 165 = .ok (.iconst 0, 1) := by decide +kernel
theorem dL_law_166 : decode cL_law 166 = .ok (.ireturn, 1) := by decide +kernel
theorem dL_law_167 : decode cL_law 167 = .ok (.aload_n 1, 1) := by decide +kernel
theorem dL_law_168 : decode cL_law 168 = .ok (.invokevirtual 18, 3) := by decide +kernel
theorem dL_law_171 : decode cL_law 171 = .ok (.aload_n 2, 1) := by decide +kernel
theorem dL_law_172 : decode cL_law 172 = .ok (.invokevirtual 22, 3) := by decide +kernel
theorem dL_law_175 : decode cL_law 175 = .ok (.if_icmp .eq 512, 3) := by decide +kernel
theorem dL_law_178 : decode cL_law 178 = .ok (.iconst 0, 1) := by decide +kernel
theorem dL_law_179 : decode cL_law 179 = .ok (.ireturn, 1) := by decide +kernel
theorem dL_law_180 : decode cL_law 180 = .ok (.aload_n 1, 1) := by decide +kernel
theorem dL_law_181 : decode cL_law 181 = .ok (.invokevirtual 23, 3) := by decide +kernel
theorem dL_law_184 : decode cL_law 184 = .ok (.aload_n 2, 1) := by decide +kernel
theorem dL_law_185 : decode cL_law 185 = .ok (.invokevirtual 26, 3) := by decide +kernel
theorem dL_law_188 : decode cL_law 188 = .ok (.if_icmp .eq 499, 3) := by decide +kernel
theorem dL_law_191 : decode cL_law 191 = .ok (.iconst 0, 1) := by decide +kernel
theorem dL_law_192 : decode cL_law 192 = .ok (.ireturn, 1) := by decide +kernel
theorem dL_law_193 : decode cL_law 193 = .ok (.aload_n 1, 1) := by decide +kernel
theorem dL_law_194 : decode cL_law 194 = .ok (.invokevirtual 27, 3) := by decide +kernel
theorem dL_law_197 : decode cL_law 197 = .ok (.aload_n 2, 1) := by decide +kernel
theorem dL_law_198 : decode cL_law 198 = .ok (.invokevirtual 30, 3) := by decide +kernel
theorem dL_law_201 : decode cL_law 201 = .ok (.if_icmp .eq 486, 3) := by decide +kernel
theorem dL_law_204 : decode cL_law 204 = .ok (.iconst 0, 1) := by decide +kernel
theorem dL_law_205 : decode cL_law 205 = .ok (.ireturn, 1) := by decide +kernel
theorem dL_law_206 : decode cL_law 206 = .ok (.aload_n 1, 1) := by decide +kernel
theorem dL_law_207 : decode cL_law 207 = .ok (.aload_n 0, 1) := by decide +kernel
theorem dL_law_208 : decode cL_law 208 = .ok (.iload_n 3, 1) := by decide +kernel
theorem dL_law_209 : decode cL_law 209 = .ok (.iconst 1, 1) := by decide +kernel
theorem dL_law_210 : decode cL_law 210 = .ok (.iadd, 1) := by decide +kernel
theorem dL_law_211 : decode cL_law 211 = .ok (.iaload, 1) := by decide +kernel
theorem dL_law_212 : decode cL_law 212 = .ok (.aload_n 0, 1) := by decide +kernel
theorem dL_law_213 : decode cL_law 213 = .ok (.iload_n 3, 1) := by decide +kernel
theorem dL_law_214 : decode cL_law 214 = .ok (.iconst 2, 1) := by decide +kernel
theorem dL_law_215 : decode cL_law 215 = .ok (.iadd, 1) := by decide +kernel
theorem dL_law_216 : decode cL_law 216 = .ok (.iaload, 1) := by decide +kernel
theorem dL_law_217 : decode cL_law 217 = .ok (.invokevirtual 31, 3) := by decide +kernel
theorem dL_law_220 : decode cL_law 220 = .ok (.aload_n 2, 1) := by decide +kernel
theorem dL_law_221 : decode cL_law 221 = .ok (.aload_n 0, 1) := by decide +kernel
theorem dL_law_222 : decode cL_law 222 = .ok (.iload_n 3, 1) := by decide +kernel
theorem dL_law_223 : decode cL_law 223 = .ok (.iconst 1, 1) := by decide +kernel
theorem dL_law_224 : decode cL_law 224 = .ok (.iadd, 1) := by decide +kernel
theorem dL_law_225 : decode cL_law 225 = .ok (.iaload, 1) := by decide +kernel
theorem dL_law_226 : decode cL_law 226 = .ok (.aload_n 0, 1) := by decide +kernel
theorem dL_law_227 : decode cL_law 227 = .ok (.iload_n 3, 1) := by decide +kernel
theorem dL_law_228 : decode cL_law 228 = .ok (.iconst 2, 1) := by decide +kernel
theorem dL_law_229 : decode cL_law 229 = .ok (.iadd, 1) := by decide +kernel
theorem dL_law_230 : decode cL_law 230 = .ok (.iaload, 1) := by decide +kernel
theorem dL_law_231 : decode cL_law 231 = .ok (.invokevirtual 35, 3) := by decide +kernel
theorem dL_law_234 : decode cL_law 234 = .ok (.if_icmp .eq 453, 3) := by decide +kernel
theorem dL_law_237 : decode cL_law 237 = .ok (.iconst 0, 1) := by decide +kernel
theorem dL_law_238 : decode cL_law 238 = .ok (.ireturn, 1) := by decide +kernel
theorem dL_law_239 : decode cL_law 239 = .ok (.aload_n 1, 1) := by decide +kernel
theorem dL_law_240 : decode cL_law 240 = .ok (.aload_n 0, 1) := by decide +kernel
theorem dL_law_241 : decode cL_law 241 = .ok (.iload_n 3, 1) := by decide +kernel
theorem dL_law_242 : decode cL_law 242 = .ok (.iconst 1, 1) := by decide +kernel
theorem dL_law_243 : decode cL_law 243 = .ok (.iadd, 1) := by decide +kernel
theorem dL_law_244 : decode cL_law 244 = .ok (.iaload, 1) := by decide +kernel
theorem dL_law_245 : decode cL_law 245 = .ok (.aload_n 0, 1) := by decide +kernel
theorem dL_law_246 : decode cL_law 246 = .ok (.iload_n 3, 1) := by decide +kernel
theorem dL_law_247 : decode cL_law 247 = .ok (.iconst 2, 1) := by decide +kernel
theorem dL_law_248 : decode cL_law 248 = .ok (.iadd, 1) := by decide +kernel
theorem dL_law_249 : decode cL_law 249 = .ok (.iaload, 1) := by decide +kernel
theorem dL_law_250 : decode cL_law 250 = .ok (.invokevirtual 36, 3) := by decide +kernel
theorem dL_law_253 : decode cL_law 253 = .ok (.aload_n 2, 1) := by decide +kernel
theorem dL_law_254 : decode cL_law 254 = .ok (.aload_n 0, 1) := by decide +kernel
theorem dL_law_255 : decode cL_law 255 = .ok (.iload_n 3, 1) := by decide +kernel
theorem dL_law_256 : decode cL_law 256 = .ok (.iconst 1, 1) := by decide +kernel
theorem dL_law_257 : decode cL_law 257 = .ok (.iadd, 1) := by decide +kernel
theorem dL_law_258 : decode cL_law 258 = .ok (.iaload, 1) := by decide +kernel
theorem dL_law_259 : decode cL_law 259 = .ok (.aload_n 0, 1) := by decide +kernel
theorem dL_law_260 : decode cL_law 260 = .ok (.iload_n 3, 1) := by decide +kernel
theorem dL_law_261 : decode cL_law 261 = .ok (.iconst 2, 1) := by decide +kernel
theorem dL_law_262 : decode cL_law 262 = .ok (.iadd, 1) := by decide +kernel
theorem dL_law_263 : decode cL_law 263 = .ok (.iaload, 1) := by decide +kernel
theorem dL_law_264 : decode cL_law 264 = .ok (.invokevirtual 39, 3) := by decide +kernel
theorem dL_law_267 : decode cL_law 267 = .ok (.if_icmp .eq 420, 3) := by decide +kernel
theorem dL_law_270 : decode cL_law 270 = .ok (.iconst 0, 1) := by decide +kernel
theorem dL_law_271 : decode cL_law 271 = .ok (.ireturn, 1) := by decide +kernel
theorem dL_law_272 : decode cL_law 272 = .ok (.aload_n 1, 1) := by decide +kernel
theorem dL_law_273 : decode cL_law 273 = .ok (.aload_n 0, 1) := by decide +kernel
theorem dL_law_274 : decode cL_law 274 = .ok (.iload_n 3, 1) := by decide +kernel
theorem dL_law_275 : decode cL_law 275 = .ok (.iconst 1, 1) := by decide +kernel
theorem dL_law_276 : decode cL_law 276 = .ok (.iadd, 1) := by decide +kernel
theorem dL_law_277 : decode cL_law 277 = .ok (.iaload, 1) := by decide +kernel
theorem dL_law_278 : decode cL_law 278 = .ok (.invokevirtual 40, 3) := by decide +kernel
theorem dL_law_281 : decode cL_law 281 = .ok (.aload_n 2, 1) := by decide +kernel
theorem dL_law_282 : decode cL_law 282 = .ok (.aload_n 0, 1) := by decide +kernel
theorem dL_law_283 : decode cL_law 283 = .ok (.iload_n 3, 1) := by decide +kernel
theorem dL_law_284 : decode cL_law 284 = .ok (.iconst 1, 1) := by decide +kernel
theorem dL_law_285 : decode cL_law 285 = .ok (.iadd, 1) := by decide +kernel
theorem dL_law_286 : decode cL_law 286 = .ok (.iaload, 1) := by decide +kernel
theorem dL_law_287 : decode cL_law 287 = .ok (.invokevirtual 43, 3) := by decide +kernel
theorem dL_law_290 : decode cL_law 290 = .ok (.if_icmp .eq 397, 3) := by decide +kernel
theorem dL_law_293 : decode cL_law 293 = .ok (.iconst 0, 1) := by decide +kernel
theorem dL_law_294 : decode cL_law 294 = .ok (.ireturn, 1) := by decide +kernel
theorem dL_law_295 : decode cL_law 295 = .ok (.aload_n 1, 1) := by decide +kernel
theorem dL_law_296 : decode cL_law 296 = .ok (.invokevirtual 44, 3) := by decide +kernel
theorem dL_law_299 : decode cL_law 299 = .ok (.aload_n 2, 1) := by decide +kernel
theorem dL_law_300 : decode cL_law 300 = .ok (.invokevirtual 47, 3) := by decide +kernel
theorem dL_law_303 : decode cL_law 303 = .ok (.if_icmp .eq 384, 3) := by decide +kernel
theorem dL_law_306 : decode cL_law 306 = .ok (.iconst 0, 1) := by decide +kernel
theorem dL_law_307 : decode cL_law 307 = .ok (.ireturn, 1) := by decide +kernel
theorem dL_law_308 : decode cL_law 308 = .ok (.aload_n 1, 1) := by decide +kernel
theorem dL_law_309 : decode cL_law 309 = .ok (.aload_n 0, 1) := by decide +kernel
theorem dL_law_310 : decode cL_law 310 = .ok (.iload_n 3, 1) := by decide +kernel
theorem dL_law_311 : decode cL_law 311 = .ok (.iconst 1, 1) := by decide +kernel
theorem dL_law_312 : decode cL_law 312 = .ok (.iadd, 1) := by decide +kernel
theorem dL_law_313 : decode cL_law 313 = .ok (.iaload, 1) := by decide +kernel
theorem dL_law_314 : decode cL_law 314 = .ok (.aload_n 0, 1) := by decide +kernel
theorem dL_law_315 : decode cL_law 315 = .ok (.iload_n 3, 1) := by decide +kernel
theorem dL_law_316 : decode cL_law 316 = .ok (.iconst 2, 1) := by decide +kernel
theorem dL_law_317 : decode cL_law 317 = .ok (.iadd, 1) := by decide +kernel
theorem dL_law_318 : decode cL_law 318 = .ok (.iaload, 1) := by decide +kernel
theorem dL_law_319 : decode cL_law 319 = .ok (.invokevirtual 48, 3) := by decide +kernel
theorem dL_law_322 : decode cL_law 322 = .ok (.aload_n 2, 1) := by decide +kernel
theorem dL_law_323 : decode cL_law 323 = .ok (.aload_n 0, 1) := by decide +kernel
theorem dL_law_324 : decode cL_law 324 = .ok (.iload_n 3, 1) := by decide +kernel
theorem dL_law_325 : decode cL_law 325 = .ok (.iconst 1, 1) := by decide +kernel
theorem dL_law_326 : decode cL_law 326 = .ok (.iadd, 1) := by decide +kernel
theorem dL_law_327 : decode cL_law 327 = .ok (.iaload, 1) := by decide +kernel
theorem dL_law_328 : decode cL_law 328 = .ok (.aload_n 0, 1) := by decide +kernel
theorem dL_law_329 : decode cL_law 329 = .ok (.iload_n 3, 1) := by decide +kernel
theorem dL_law_330 : decode cL_law 330 = .ok (.iconst 2, 1) := by decide +kernel
theorem dL_law_331 : decode cL_law 331 = .ok (.iadd, 1) := by decide +kernel
theorem dL_law_332 : decode cL_law 332 = .ok (.iaload, 1) := by decide +kernel
theorem dL_law_333 : decode cL_law 333 = .ok (.invokevirtual 51, 3) := by decide +kernel
theorem dL_law_336 : decode cL_law 336 = .ok (.if_icmp .eq 351, 3) := by decide +kernel
theorem dL_law_339 : decode cL_law 339 = .ok (.iconst 0, 1) := by decide +kernel
theorem dL_law_340 : decode cL_law 340 = .ok (.ireturn, 1) := by decide +kernel
theorem dL_law_341 : decode cL_law 341 = .ok (.aload_n 1, 1) := by decide +kernel
theorem dL_law_342 : decode cL_law 342 = .ok (.aload_n 0, 1) := by decide +kernel
theorem dL_law_343 : decode cL_law 343 = .ok (.iload_n 3, 1) := by decide +kernel
theorem dL_law_344 : decode cL_law 344 = .ok (.iconst 1, 1) := by decide +kernel
theorem dL_law_345 : decode cL_law 345 = .ok (.iadd, 1) := by decide +kernel
theorem dL_law_346 : decode cL_law 346 = .ok (.iaload, 1) := by decide +kernel
theorem dL_law_347 : decode cL_law 347 = .ok (.aload_n 0, 1) := by decide +kernel
theorem dL_law_348 : decode cL_law 348 = .ok (.iload_n 3, 1) := by decide +kernel
theorem dL_law_349 : decode cL_law 349 = .ok (.iconst 2, 1) := by decide +kernel
theorem dL_law_350 : decode cL_law 350 = .ok (.iadd, 1) := by decide +kernel
theorem dL_law_351 : decode cL_law 351 = .ok (.iaload, 1) := by decide +kernel
theorem dL_law_352 : decode cL_law 352 = .ok (.invokevirtual 52, 3) := by decide +kernel
theorem dL_law_355 : decode cL_law 355 = .ok (.aload_n 2, 1) := by decide +kernel
theorem dL_law_356 : decode cL_law 356 = .ok (.aload_n 0, 1) := by decide +kernel
theorem dL_law_357 : decode cL_law 357 = .ok (.iload_n 3, 1) := by decide +kernel
theorem dL_law_358 : decode cL_law 358 = .ok (.iconst 1, 1) := by decide +kernel
theorem dL_law_359 : decode cL_law 359 = .ok (.iadd, 1) := by decide +kernel
theorem dL_law_360 : decode cL_law 360 = .ok (.iaload, 1) := by decide +kernel
theorem dL_law_361 : decode cL_law 361 = .ok (.aload_n 0, 1) := by decide +kernel
theorem dL_law_362 : decode cL_law 362 = .ok (.iload_n 3, 1) := by decide +kernel
theorem dL_law_363 : decode cL_law 363 = .ok (.iconst 2, 1) := by decide +kernel
theorem dL_law_364 : decode cL_law 364 = .ok (.iadd, 1) := by decide +kernel
theorem dL_law_365 : decode cL_law 365 = .ok (.iaload, 1) := by decide +kernel
theorem dL_law_366 : decode cL_law 366 = .ok (.invokevirtual 55, 3) := by decide +kernel
theorem dL_law_369 : decode cL_law 369 = .ok (.if_icmp .eq 318, 3) := by decide +kernel
theorem dL_law_372 : decode cL_law 372 = .ok (.iconst 0, 1) := by decide +kernel
theorem dL_law_373 : decode cL_law 373 = .ok (.ireturn, 1) := by decide +kernel
theorem dL_law_374 : decode cL_law 374 = .ok (.aload_n 1, 1) := by decide +kernel
theorem dL_law_375 : decode cL_law 375 = .ok (.invokevirtual 56, 3) := by decide +kernel
theorem dL_law_378 : decode cL_law 378 = .ok (.aload_n 2, 1) := by decide +kernel
theorem dL_law_379 : decode cL_law 379 = .ok (.invokevirtual 59, 3) := by decide +kernel
theorem dL_law_382 : decode cL_law 382 = .ok (.if_icmp .eq 305, 3) := by decide +kernel
theorem dL_law_385 : decode cL_law 385 = .ok (.iconst 0, 1) := by decide +kernel
theorem dL_law_386 : decode cL_law 386 = .ok (.ireturn, 1) := by decide +kernel
theorem dL_law_387 : decode cL_law 387 = .ok (.aload_n 1, 1) := by decide +kernel
theorem dL_law_388 : decode cL_law 388 = .ok (.aload_n 0, 1) := by decide +kernel
theorem dL_law_389 : decode cL_law 389 = .ok (.iload_n 3, 1) := by decide +kernel
theorem dL_law_390 : decode cL_law 390 = .ok (.iconst 1, 1) := by decide +kernel
theorem dL_law_391 : decode cL_law 391 = .ok (.iadd, 1) := by decide +kernel
theorem dL_law_392 : decode cL_law 392 = .ok (.iaload, 1) := by decide +kernel
theorem dL_law_393 : decode cL_law 393 = .ok (.aload_n 0, 1) := by decide +kernel
theorem dL_law_394 : decode cL_law 394 = .ok (.iload_n 3, 1) := by decide +kernel
theorem dL_law_395 : decode cL_law 395 = .ok (.iconst 2, 1) := by decide +kernel
theorem dL_law_396 : decode cL_law 396 = .ok (.iadd, 1) := by decide +kernel
theorem dL_law_397 : decode cL_law 397 = .ok (.iaload, 1) := by decide +kernel
theorem dL_law_398 : decode cL_law 398 = .ok (.invokevirtual 60, 3) := by decide +kernel
theorem dL_law_401 : decode cL_law 401 = .ok (.aload_n 2, 1) := by decide +kernel
theorem dL_law_402 : decode cL_law 402 = .ok (.aload_n 0, 1) := by decide +kernel
theorem dL_law_403 : decode cL_law 403 = .ok (.iload_n 3, 1) := by decide +kernel
theorem dL_law_404 : decode cL_law 404 = .ok (.iconst 1, 1) := by decide +kernel
theorem dL_law_405 : decode cL_law 405 = .ok (.iadd, 1) := by decide +kernel
theorem dL_law_406 : decode cL_law 406 = .ok (.iaload, 1) := by decide +kernel
theorem dL_law_407 : decode cL_law 407 = .ok (.aload_n 0, 1) := by decide +kernel
theorem dL_law_408 : decode cL_law 408 = .ok (.iload_n 3, 1) := by decide +kernel
theorem dL_law_409 : decode cL_law 409 = .ok (.iconst 2, 1) := by decide +kernel
theorem dL_law_410 : decode cL_law 410 = .ok (.iadd, 1) := by decide +kernel
theorem dL_law_411 : decode cL_law 411 = .ok (.iaload, 1) := by decide +kernel
theorem dL_law_412 : decode cL_law 412 = .ok (.invokevirtual 63, 3) := by decide +kernel
theorem dL_law_415 : decode cL_law 415 = .ok (.if_icmp .eq 272, 3) := by decide +kernel
theorem dL_law_418 : decode cL_law 418 = .ok (.iconst 0, 1) := by decide +kernel
theorem dL_law_419 : decode cL_law 419 = .ok (.ireturn, 1) := by decide +kernel
theorem dL_law_420 : decode cL_law 420 = .ok (.aload_n 1, 1) := by decide +kernel
theorem dL_law_421 : decode cL_law 421 = .ok (.invokevirtual 64, 3) := by decide +kernel
theorem dL_law_424 : decode cL_law 424 = .ok (.aload_n 2, 1) := by decide +kernel
theorem dL_law_425 : decode cL_law 425 = .ok (.invokevirtual 67, 3) := by decide +kernel
theorem dL_law_428 : decode cL_law 428 = .ok (.if_icmp .eq 259, 3) := by decide +kernel
theorem dL_law_431 : decode cL_law 431 = .ok (.iconst 0, 1) := by decide +kernel
theorem dL_law_432 : decode cL_law 432 = .ok (.ireturn, 1) := by decide +kernel
theorem dL_law_433 : decode cL_law 433 = .ok (.aload_n 1, 1) := by decide +kernel
theorem dL_law_434 : decode cL_law 434 = .ok (.aload_n 0, 1) := by decide +kernel
theorem dL_law_435 : decode cL_law 435 = .ok (.iload_n 3, 1) := by decide +kernel
theorem dL_law_436 : decode cL_law 436 = .ok (.iconst 1, 1) := by decide +kernel
theorem dL_law_437 : decode cL_law 437 = .ok (.iadd, 1) := by decide +kernel
theorem dL_law_438 : decode cL_law 438 = .ok (.iaload, 1) := by decide +kernel
theorem dL_law_439 : decode cL_law 439 = .ok (.aload_n 0, 1) := by decide +kernel
theorem dL_law_440 : decode cL_law 440 = .ok (.iload_n 3, 1) := by decide +kernel
theorem dL_law_441 : decode cL_law 441 = .ok (.iconst 2, 1) := by decide +kernel
theorem dL_law_442 : decode cL_law 442 = .ok (.iadd, 1) := by decide +kernel
theorem dL_law_443 : decode cL_law 443 = .ok (.iaload, 1) := by decide +kernel
theorem dL_law_444 : decode cL_law 444 = .ok (.invokevirtual 68, 3) := by decide +kernel
theorem dL_law_447 : decode cL_law 447 = .ok (.aload_n 2, 1) := by decide +kernel
theorem dL_law_448 : decode cL_law 448 = .ok (.aload_n 0, 1) := by decide +kernel
theorem dL_law_449 : decode cL_law 449 = .ok (.iload_n 3, 1) := by decide +kernel
theorem dL_law_450 : decode cL_law 450 = .ok (.iconst 1, 1) := by decide +kernel
theorem dL_law_451 : decode cL_law 451 = .ok (.iadd, 1) := by decide +kernel
theorem dL_law_452 : decode cL_law 452 = .ok (.iaload, 1) := by decide +kernel
theorem dL_law_453 : decode cL_law 453 = .ok (.aload_n 0, 1) := by decide +kernel
theorem dL_law_454 : decode cL_law 454 = .ok (.iload_n 3, 1) := by decide +kernel
theorem dL_law_455 : decode cL_law 455 = .ok (.iconst 2, 1) := by decide +kernel
theorem dL_law_456 : decode cL_law 456 = .ok (.iadd, 1) := by decide +kernel
theorem dL_law_457 : decode cL_law 457 = .ok (.iaload, 1) := by decide +kernel
theorem dL_law_458 : decode cL_law 458 = .ok (.invokevirtual 71, 3) := by decide +kernel
theorem dL_law_461 : decode cL_law 461 = .ok (.if_icmp .eq 226, 3) := by decide +kernel
theorem dL_law_464 : decode cL_law 464 = .ok (.iconst 0, 1) := by decide +kernel
theorem dL_law_465 : decode cL_law 465 = .ok (.ireturn, 1) := by decide +kernel
theorem dL_law_466 : decode cL_law 466 = .ok (.aload_n 1, 1) := by decide +kernel
theorem dL_law_467 : decode cL_law 467 = .ok (.aload_n 0, 1) := by decide +kernel
theorem dL_law_468 : decode cL_law 468 = .ok (.iload_n 3, 1) := by decide +kernel
theorem dL_law_469 : decode cL_law 469 = .ok (.iconst 1, 1) := by decide +kernel
theorem dL_law_470 : decode cL_law 470 = .ok (.iadd, 1) := by decide +kernel
theorem dL_law_471 : decode cL_law 471 = .ok (.iaload, 1) := by decide +kernel
theorem dL_law_472 : decode cL_law 472 = .ok (.aload_n 0, 1) := by decide +kernel
theorem dL_law_473 : decode cL_law 473 = .ok (.iload_n 3, 1) := by decide +kernel
theorem dL_law_474 : decode cL_law 474 = .ok (.iconst 2, 1) := by decide +kernel
theorem dL_law_475 : decode cL_law 475 = .ok (.iadd, 1) := by decide +kernel
theorem dL_law_476 : decode cL_law 476 = .ok (.iaload, 1) := by decide +kernel
theorem dL_law_477 : decode cL_law 477 = .ok (.invokevirtual 72, 3) := by decide +kernel
theorem dL_law_480 : decode cL_law 480 = .ok (.aload_n 2, 1) := by decide +kernel
theorem dL_law_481 : decode cL_law 481 = .ok (.aload_n 0, 1) := by decide +kernel
theorem dL_law_482 : decode cL_law 482 = .ok (.iload_n 3, 1) := by decide +kernel
theorem dL_law_483 : decode cL_law 483 = .ok (.iconst 1, 1) := by decide +kernel
theorem dL_law_484 : decode cL_law 484 = .ok (.iadd, 1) := by decide +kernel
theorem dL_law_485 : decode cL_law 485 = .ok (.iaload, 1) := by decide +kernel
theorem dL_law_486 : decode cL_law 486 = .ok (.aload_n 0, 1) := by decide +kernel
theorem dL_law_487 : decode cL_law 487 = .ok (.iload_n 3, 1) := by decide +kernel
theorem dL_law_488 : decode cL_law 488 = .ok (.iconst 2, 1) := by decide +kernel
theorem dL_law_489 : decode cL_law 489 = .ok (.iadd, 1) := by decide +kernel
theorem dL_law_490 : decode cL_law 490 = .ok (.iaload, 1) := by decide +kernel
theorem dL_law_491 : decode cL_law 491 = .ok (.invokevirtual 75, 3) := by decide +kernel
theorem dL_law_494 : decode cL_law 494 = .ok (.if_icmp .eq 193, 3) := by decide +kernel
theorem dL_law_497 : decode cL_law 497 = .ok (.iconst 0, 1) := by decide +kernel
theorem dL_law_498 : decode cL_law 498 = .ok (.ireturn, 1) := by decide +kernel
theorem dL_law_499 : decode cL_law 499 = .ok (.aload_n 1, 1) := by decide +kernel
theorem dL_law_500 : decode cL_law 500 = .ok (.aload_n 0, 1) := by decide +kernel
theorem dL_law_501 : decode cL_law 501 = .ok (.iload_n 3, 1) := by decide +kernel
theorem dL_law_502 : decode cL_law 502 = .ok (.iconst 1, 1) := by decide +kernel
theorem dL_law_503 : decode cL_law 503 = .ok (.iadd, 1) := by decide +kernel
theorem dL_law_504 : decode cL_law 504 = .ok (.iaload, 1) := by decide +kernel
theorem dL_law_505 : decode cL_law 505 = .ok (.aload_n 0, 1) := by decide +kernel
theorem dL_law_506 : decode cL_law 506 = .ok (.iload_n 3, 1) := by decide +kernel
theorem dL_law_507 : decode cL_law 507 = .ok (.iconst 2, 1) := by decide +kernel
theorem dL_law_508 : decode cL_law 508 = .ok (.iadd, 1) := by decide +kernel
theorem dL_law_509 : decode cL_law 509 = .ok (.iaload, 1) := by decide +kernel
theorem dL_law_510 : decode cL_law 510 = .ok (.invokevirtual 76, 3) := by decide +kernel
theorem dL_law_513 : decode cL_law 513 = .ok (.aload_n 2, 1) := by decide +kernel
theorem dL_law_514 : decode cL_law 514 = .ok (.aload_n 0, 1) := by decide +kernel
theorem dL_law_515 : decode cL_law 515 = .ok (.iload_n 3, 1) := by decide +kernel
theorem dL_law_516 : decode cL_law 516 = .ok (.iconst 1, 1) := by decide +kernel
theorem dL_law_517 : decode cL_law 517 = .ok (.iadd, 1) := by decide +kernel
theorem dL_law_518 : decode cL_law 518 = .ok (.iaload, 1) := by decide +kernel
theorem dL_law_519 : decode cL_law 519 = .ok (.aload_n 0, 1) := by decide +kernel
theorem dL_law_520 : decode cL_law 520 = .ok (.iload_n 3, 1) := by decide +kernel
theorem dL_law_521 : decode cL_law 521 = .ok (.iconst 2, 1) := by decide +kernel
theorem dL_law_522 : decode cL_law 522 = .ok (.iadd, 1) := by decide +kernel
theorem dL_law_523 : decode cL_law 523 = .ok (.iaload, 1) := by decide +kernel
theorem dL_law_524 : decode cL_law 524 = .ok (.invokevirtual 79, 3) := by decide +kernel
theorem dL_law_527 : decode cL_law 527 = .ok (.if_icmp .eq 160, 3) := by decide +kernel
theorem dL_law_530 : decode cL_law 530 = .ok (.iconst 0, 1) := by decide +kernel
theorem dL_law_531 : decode cL_law 531 = .ok (.ireturn, 1) := by decide +kernel
theorem dL_law_532 : decode cL_law 532 = .ok (.aload_n 1, 1) := by decide +kernel
theorem dL_law_533 : decode cL_law 533 = .ok (.invokevirtual 80, 3) := by decide +kernel
theorem dL_law_536 : decode cL_law 536 = .ok (.aload_n 2, 1) := by decide +kernel
theorem dL_law_537 : decode cL_law 537 = .ok (.invokevirtual 83, 3) := by decide +kernel
theorem dL_law_540 : decode cL_law 540 = .ok (.if_icmp .eq 147, 3) := by decide +kernel
theorem dL_law_543 : decode cL_law 543 = .ok (.iconst 0, 1) := by decide +kernel
theorem dL_law_544 : decode cL_law 544 = .ok (.ireturn, 1) := by decide +kernel
theorem dL_law_545 : decode cL_law 545 = .ok (.aload_n 1, 1) := by decide +kernel
theorem dL_law_546 : decode cL_law 546 = .ok (.aload_n 0, 1) := by decide +kernel
theorem dL_law_547 : decode cL_law 547 = .ok (.iload_n 3, 1) := by decide +kernel
theorem dL_law_548 : decode cL_law 548 = .ok (.iconst 1, 1) := by decide +kernel
theorem dL_law_549 : decode cL_law 549 = .ok (.iadd, 1) := by decide +kernel
theorem dL_law_550 : decode cL_law 550 = .ok (.iaload, 1) := by decide +kernel
theorem dL_law_551 : decode cL_law 551 = .ok (.invokevirtual 84, 3) := by decide +kernel
theorem dL_law_554 : decode cL_law 554 = .ok (.aload_n 2, 1) := by decide +kernel
theorem dL_law_555 : decode cL_law 555 = .ok (.aload_n 0, 1) := by decide +kernel
theorem dL_law_556 : decode cL_law 556 = .ok (.iload_n 3, 1) := by decide +kernel
theorem dL_law_557 : decode cL_law 557 = .ok (.iconst 1, 1) := by decide +kernel
theorem dL_law_558 : decode cL_law 558 = .ok (.iadd, 1) := by decide +kernel
theorem dL_law_559 : decode cL_law 559 = .ok (.iaload, 1) := by decide +kernel
theorem dL_law_560 : decode cL_law 560 = .ok (.invokevirtual 87, 3) := by decide +kernel
theorem dL_law_563 : decode cL_law 563 = .ok (.if_icmp .eq 124, 3) := by decide +kernel
theorem dL_law_566 : decode cL_law 566 = .ok (.iconst 0, 1) := by decide +kernel
theorem dL_law_567 : decode cL_law 567 = .ok (.ireturn, 1) := by decide +kernel
theorem dL_law_568 : decode cL_law 568 = .ok (.aload_n 1, 1) := by decide +kernel
theorem dL_law_569 : decode cL_law 569 = .ok (.invokevirtual 88, 3) := by decide +kernel
theorem dL_law_572 : decode cL_law 572 = .ok (.aload_n 2, 1) := by decide +kernel
theorem dL_law_573 : decode cL_law 573 = .ok (.invokevirtual 91, 3) := by decide +kernel
theorem dL_law_576 : decode cL_law 576 = .ok (.if_icmp .eq 111, 3) := by decide +kernel
theorem dL_law_579 : decode cL_law 579 = .ok (.iconst 0, 1) := by decide +kernel
theorem dL_law_580 : decode cL_law 580 = .ok (.ireturn, 1) := by decide +kernel
theorem dL_law_581 : decode cL_law 581 = .ok (.aload_n 1, 1) := by decide +kernel
theorem dL_law_582 : decode cL_law 582 = .ok (.aload_n 0, 1) := by decide +kernel
theorem dL_law_583 : decode cL_law 583 = .ok (.iload_n 3, 1) := by decide +kernel
theorem dL_law_584 : decode cL_law 584 = .ok (.iconst 1, 1) := by decide +kernel
theorem dL_law_585 : decode cL_law 585 = .ok (.iadd, 1) := by decide +kernel
theorem dL_law_586 : decode cL_law 586 = .ok (.iaload, 1) := by decide +kernel
theorem dL_law_587 : decode cL_law 587 = .ok (.aload_n 0, 1) := by decide +kernel
theorem dL_law_588 : decode cL_law 588 = .ok (.iload_n 3, 1) := by decide +kernel
theorem dL_law_589 : decode cL_law 589 = .ok (.iconst 2, 1) := by decide +kernel
theorem dL_law_590 : decode cL_law 590 = .ok (.iadd, 1) := by decide +kernel
theorem dL_law_591 : decode cL_law 591 = .ok (.iaload, 1) := by decide +kernel
theorem dL_law_592 : decode cL_law 592 = .ok (.aload_n 0, 1) := by decide +kernel
theorem dL_law_593 : decode cL_law 593 = .ok (.iload_n 3, 1) := by decide +kernel
theorem dL_law_594 : decode cL_law 594 = .ok (.iconst 3, 1) := by decide +kernel
theorem dL_law_595 : decode cL_law 595 = .ok (.iadd, 1) := by decide +kernel
theorem dL_law_596 : decode cL_law 596 = .ok (.iaload, 1) := by decide +kernel
theorem dL_law_597 : decode cL_law 597 = .ok (.invokevirtual 92, 3) := by decide +kernel
theorem dL_law_600 : decode cL_law 600 = .ok (.aload_n 2, 1) := by decide +kernel
theorem dL_law_601 : decode cL_law 601 = .ok (.aload_n 0, 1) := by decide +kernel
theorem dL_law_602 : decode cL_law 602 = .ok (.iload_n 3, 1) := by decide +kernel
theorem dL_law_603 : decode cL_law 603 = .ok (.iconst 1, 1) := by decide +kernel
theorem dL_law_604 : decode cL_law 604 = .ok (.iadd, 1) := by decide +kernel
theorem dL_law_605 : decode cL_law 605 = .ok (.iaload, 1) := by decide +kernel
theorem dL_law_606 : decode cL_law 606 = .ok (.aload_n 0, 1) := by decide +kernel
theorem dL_law_607 : decode cL_law 607 = .ok (.iload_n 3, 1) := by decide +kernel
theorem dL_law_608 : decode cL_law 608 = .ok (.iconst 2, 1) := by decide +kernel
theorem dL_law_609 : decode cL_law 609 = .ok (.iadd, 1) := by decide +kernel
theorem dL_law_610 : decode cL_law 610 = .ok (.iaload, 1) := by decide +kernel
theorem dL_law_611 : decode cL_law 611 = .ok (.aload_n 0, 1) := by decide +kernel
theorem dL_law_612 : decode cL_law 612 = .ok (.iload_n 3, 1) := by decide +kernel
theorem dL_law_613 : decode cL_law 613 = .ok (.iconst 3, 1) := by decide +kernel
theorem dL_law_614 : decode cL_law 614 = .ok (.iadd, 1) := by decide +kernel
theorem dL_law_615 : decode cL_law 615 = .ok (.iaload, 1) := by decide +kernel
theorem dL_law_616 : decode cL_law 616 = .ok (.invokevirtual 96, 3) := by decide +kernel
theorem dL_law_619 : decode cL_law 619 = .ok (.if_icmp .eq 68, 3) := by decide +kernel
theorem dL_law_622 : decode cL_law 622 = .ok (.iconst 0, 1) := by decide +kernel
theorem dL_law_623 : decode cL_law 623 = .ok (.ireturn, 1) := by decide +kernel
theorem dL_law_624 : decode cL_law 624 = .ok (.aload_n 1, 1) := by decide +kernel
theorem dL_law_625 : decode cL_law 625 = .ok (.invokevirtual 97, 3) := by decide +kernel
theorem dL_law_628 : decode cL_law 628 = .ok (.aload_n 2, 1) := by decide +kernel
theorem dL_law_629 : decode cL_law 629 = .ok (.invokevirtual 100, 3) := by decide +kernel
theorem dL_law_632 : decode cL_law 632 = .ok (.if_icmp .eq 55, 3) := by decide +kernel
theorem dL_law_635 : decode cL_law 635 = .ok (.iconst 0, 1) := by decide +kernel
theorem dL_law_636 : decode cL_law 636 = .ok (.ireturn, 1) := by decide +kernel
theorem dL_law_637 : decode cL_law 637 = .ok (.aload_n 1, 1) := by decide +kernel
theorem dL_law_638 : decode cL_law 638 = .ok (.invokevirtual 101, 3) := by decide +kernel
theorem dL_law_641 : decode cL_law 641 = .ok (.aload_n 2, 1) := by decide +kernel
theorem dL_law_642 : decode cL_law 642 = .ok (.invokevirtual 104, 3) := by decide +kernel
theorem dL_law_645 : decode cL_law 645 = .ok (.if_icmp .eq 42, 3) := by decide +kernel
theorem dL_law_648 : decode cL_law 648 = .ok (.iconst 0, 1) := by decide +kernel
theorem dL_law_649 : decode cL_law 649 = .ok (.ireturn, 1) := by decide +kernel
theorem dL_law_650 : decode cL_law 650 = .ok (.aload_n 1, 1) := by decide +kernel
theorem dL_law_651 : decode cL_law 651 = .ok (.aload_n 0, 1) := by decide +kernel
theorem dL_law_652 : decode cL_law 652 = .ok (.iload_n 3, 1) := by decide +kernel
theorem dL_law_653 : decode cL_law 653 = .ok (.iconst 1, 1) := by decide +kernel
theorem dL_law_654 : decode cL_law 654 = .ok (.iadd, 1) := by decide +kernel
theorem dL_law_655 : decode cL_law 655 = .ok (.iaload, 1) := by decide +kernel
theorem dL_law_656 : decode cL_law 656 = .ok (.invokevirtual 105, 3) := by decide +kernel
theorem dL_law_659 : decode cL_law 659 = .ok (.aload_n 2, 1) := by decide +kernel
theorem dL_law_660 : decode cL_law 660 = .ok (.aload_n 0, 1) := by decide +kernel
theorem dL_law_661 : decode cL_law 661 = .ok (.iload_n 3, 1) := by decide +kernel
theorem dL_law_662 : decode cL_law 662 = .ok (.iconst 1, 1) := by decide +kernel
theorem dL_law_663 : decode cL_law 663 = .ok (.iadd, 1) := by decide +kernel
theorem dL_law_664 : decode cL_law 664 = .ok (.iaload, 1) := by decide +kernel
theorem dL_law_665 : decode cL_law 665 = .ok (.invokevirtual 108, 3) := by decide +kernel
theorem dL_law_668 : decode cL_law 668 = .ok (.if_icmp .eq 19, 3) := by decide +kernel
theorem dL_law_671 : decode cL_law 671 = .ok (.iconst 0, 1) := by decide +kernel
theorem dL_law_672 : decode cL_law 672 = .ok (.ireturn, 1) := by decide +kernel
theorem dL_law_673 : decode cL_law 673 = .ok (.aload_n 1, 1) := by decide +kernel
theorem dL_law_674 : decode cL_law 674 = .ok (.invokevirtual 109, 3) := by decide +kernel
theorem dL_law_677 : decode cL_law 677 = .ok (.aload_n 2, 1) := by decide +kernel
theorem dL_law_678 : decode cL_law 678 = .ok (.invokevirtual 113, 3) := by decide +kernel
theorem dL_law_681 : decode cL_law 681 = .ok (.lcmp, 1) := by decide +kernel
theorem dL_law_682 : decode cL_law 682 = .ok (.ifCond .eq 5, 3) := by decide +kernel
theorem dL_law_685 : decode cL_law 685 = .ok (.iconst 0, 1) := by decide +kernel
theorem dL_law_686 : decode cL_law 686 = .ok (.ireturn, 1) := by decide +kernel
theorem dL_law_687 : decode cL_law 687 = .ok (.iinc 3 4, 3) := by decide +kernel
theorem dL_law_690 : decode cL_law 690 = .ok (.goto (-672), 3) := by decide +kernel
theorem dL_law_693 : decode cL_law 693 = .ok (.iconst 1, 1) := by decide +kernel
theorem dL_law_694 : decode cL_law 694 = .ok (.ireturn, 1) := by decide +kernel
abbrev vwCl : List vw_C := [(RX0, TX0, 11), (RX1, TX1, 1), (RX2, TX2, 11), (RX3, TX3, 32)]
/-- the objects of BirthStreet$Moment, kind 0: what each holds, by its address -/
structure wK_O_Moment where
  f_today : Nat → Int32
  f_births : Nat → Int32
  f_debts : Nat → Int32
  f_heard : Nat → Int32
  f_ages : Nat → Option Nat
  f_pastAges : Nat → Option Nat
  f_birthsIn : Nat → Option Nat
  f_debtAmounts : Nat → Option Nat
  f_debtNumbers : Nat → Option Nat
  f_heardHouses : Nat → Option Nat
  f_heardNumbers : Nat → Option Nat
/-- the objects of BirthStreet$Row, kind 1: what each holds, by its address -/
structure wK_O_Row where
  f_cells : Nat → Option Nat
/-- the objects of BirthStreet, kind 2: what each holds, by its address -/
structure wK_O_BirthStreet where
  f_page : Nat → Option Nat
  f_letters : Nat → Int32
  f_houses : Nat → Int32
  f_streetsRead : Nat → Int32
  f_kinds : Nat → Option Nat
  f_now : Nat → Option Nat
  f_kept : Nat → Option Nat
  f_isKept : Nat → Int32
  f_wouldBe : Nat → Option Nat
  f_possible : Nat → Option Nat
  f_tally : Nat → Option Nat
/-- the objects of BirthStreetModel, kind 3: what each holds, by its address -/
structure wK_O_BirthStreetModel where
  f_streets : Nat → Int32
  f_houses : Nat → Int32
  f_kindOf : Nat → Option Nat
  f_ageOf : Nat → Option Nat
  f_birthsOf : Nat → Option Nat
  f_ageThen : Nat → Option Nat
  f_today : Nat → Int32
  f_births : Nat → Int32
  f_debts : Nat → Int32
  f_debtMuch : Nat → Option Nat
  f_debtNumber : Nat → Option Nat
  f_heard : Nat → Int32
  f_heardHouse : Nat → Option Nat
  f_heardNumber : Nat → Option Nat
  f_pageLength : Nat → Int32
  f_page : Nat → Option Nat
  f_savedAge : Nat → Option Nat
  f_seedNow : Nat → Int64
  f_isKept : Nat → Int32
  f_keptStreet : Nat → Int32
  f_keptToday : Nat → Int32
  f_keptBirths : Nat → Int32
  f_keptDebts : Nat → Int32
  f_keptHeard : Nat → Int32
  f_keptAge : Nat → Option Nat
  f_keptBirthsOf : Nat → Option Nat
  f_keptThen : Nat → Option Nat
  f_keptMuch : Nat → Option Nat
  f_keptNumber : Nat → Option Nat
  f_keptHouse : Nat → Option Nat
  f_keptHeardNumber : Nat → Option Nat
  f_h : Nat → Int64
/-- the arrays of kind 4: what each holds, by its address -/
structure wK_R_B where
  len : Nat → Nat
  row : Nat → Nat → Int32
/-- the arrays of kind 5: what each holds, by its address -/
structure wK_R_I where
  len : Nat → Nat
  row : Nat → Nat → Int32
/-- the pool: the addresses, the kind of each, and the kinds -/
structure wPS where
  L : List Nat
  K : Nat → Nat
  O_Moment : wK_O_Moment
  O_Row : wK_O_Row
  O_BirthStreet : wK_O_BirthStreet
  O_BirthStreetModel : wK_O_BirthStreetModel
  R_B : wK_R_B
  R_I : wK_R_I
/-- the empty pool -/
abbrev wP0 : wPS := { L := [], K := (fun _ => 0), O_Moment := { f_today := (fun _ => 0), f_births := (fun _ => 0), f_debts := (fun _ => 0), f_heard := (fun _ => 0), f_ages := (fun _ => none), f_pastAges := (fun _ => none), f_birthsIn := (fun _ => none), f_debtAmounts := (fun _ => none), f_debtNumbers := (fun _ => none), f_heardHouses := (fun _ => none), f_heardNumbers := (fun _ => none) }, O_Row := { f_cells := (fun _ => none) }, O_BirthStreet := { f_page := (fun _ => none), f_letters := (fun _ => 0), f_houses := (fun _ => 0), f_streetsRead := (fun _ => 0), f_kinds := (fun _ => none), f_now := (fun _ => none), f_kept := (fun _ => none), f_isKept := (fun _ => 0), f_wouldBe := (fun _ => none), f_possible := (fun _ => none), f_tally := (fun _ => none) }, O_BirthStreetModel := { f_streets := (fun _ => 0), f_houses := (fun _ => 0), f_kindOf := (fun _ => none), f_ageOf := (fun _ => none), f_birthsOf := (fun _ => none), f_ageThen := (fun _ => none), f_today := (fun _ => 0), f_births := (fun _ => 0), f_debts := (fun _ => 0), f_debtMuch := (fun _ => none), f_debtNumber := (fun _ => none), f_heard := (fun _ => 0), f_heardHouse := (fun _ => none), f_heardNumber := (fun _ => none), f_pageLength := (fun _ => 0), f_page := (fun _ => none), f_savedAge := (fun _ => none), f_seedNow := (fun _ => 0), f_isKept := (fun _ => 0), f_keptStreet := (fun _ => 0), f_keptToday := (fun _ => 0), f_keptBirths := (fun _ => 0), f_keptDebts := (fun _ => 0), f_keptHeard := (fun _ => 0), f_keptAge := (fun _ => none), f_keptBirthsOf := (fun _ => none), f_keptThen := (fun _ => none), f_keptMuch := (fun _ => none), f_keptNumber := (fun _ => none), f_keptHouse := (fun _ => none), f_keptHeardNumber := (fun _ => none), f_h := (fun _ => 0) }, R_B := { len := (fun _ => 0), row := (fun _ _ => 0) }, R_I := { len := (fun _ => 0), row := (fun _ _ => 0) } }
/-- the pool's rows by their kinds -/
abbrev wPF (cyB : ClassId) (cyI : ClassId) (S : wPS) : Nat → va_E := fun a => if S.K a = 0 then .inr (0, [.int (S.O_Moment.f_today a), .int (S.O_Moment.f_births a), .int (S.O_Moment.f_debts a), .int (S.O_Moment.f_heard a), va_rf (S.O_Moment.f_ages a), va_rf (S.O_Moment.f_pastAges a), va_rf (S.O_Moment.f_birthsIn a), va_rf (S.O_Moment.f_debtAmounts a), va_rf (S.O_Moment.f_debtNumbers a), va_rf (S.O_Moment.f_heardHouses a), va_rf (S.O_Moment.f_heardNumbers a)]) else if S.K a = 1 then .inr (1, [va_rf (S.O_Row.f_cells a)]) else if S.K a = 2 then .inr (2, [va_rf (S.O_BirthStreet.f_page a), .int (S.O_BirthStreet.f_letters a), .int (S.O_BirthStreet.f_houses a), .int (S.O_BirthStreet.f_streetsRead a), va_rf (S.O_BirthStreet.f_kinds a), va_rf (S.O_BirthStreet.f_now a), va_rf (S.O_BirthStreet.f_kept a), .int (S.O_BirthStreet.f_isKept a), va_rf (S.O_BirthStreet.f_wouldBe a), va_rf (S.O_BirthStreet.f_possible a), va_rf (S.O_BirthStreet.f_tally a)]) else if S.K a = 3 then .inr (3, [.int (S.O_BirthStreetModel.f_streets a), .int (S.O_BirthStreetModel.f_houses a), va_rf (S.O_BirthStreetModel.f_kindOf a), va_rf (S.O_BirthStreetModel.f_ageOf a), va_rf (S.O_BirthStreetModel.f_birthsOf a), va_rf (S.O_BirthStreetModel.f_ageThen a), .int (S.O_BirthStreetModel.f_today a), .int (S.O_BirthStreetModel.f_births a), .int (S.O_BirthStreetModel.f_debts a), va_rf (S.O_BirthStreetModel.f_debtMuch a), va_rf (S.O_BirthStreetModel.f_debtNumber a), .int (S.O_BirthStreetModel.f_heard a), va_rf (S.O_BirthStreetModel.f_heardHouse a), va_rf (S.O_BirthStreetModel.f_heardNumber a), .int (S.O_BirthStreetModel.f_pageLength a), va_rf (S.O_BirthStreetModel.f_page a), va_rf (S.O_BirthStreetModel.f_savedAge a), .long (S.O_BirthStreetModel.f_seedNow a), .int (S.O_BirthStreetModel.f_isKept a), .int (S.O_BirthStreetModel.f_keptStreet a), .int (S.O_BirthStreetModel.f_keptToday a), .int (S.O_BirthStreetModel.f_keptBirths a), .int (S.O_BirthStreetModel.f_keptDebts a), .int (S.O_BirthStreetModel.f_keptHeard a), va_rf (S.O_BirthStreetModel.f_keptAge a), va_rf (S.O_BirthStreetModel.f_keptBirthsOf a), va_rf (S.O_BirthStreetModel.f_keptThen a), va_rf (S.O_BirthStreetModel.f_keptMuch a), va_rf (S.O_BirthStreetModel.f_keptNumber a), va_rf (S.O_BirthStreetModel.f_keptHouse a), va_rf (S.O_BirthStreetModel.f_keptHeardNumber a), .long (S.O_BirthStreetModel.f_h a)]) else if S.K a = 4 then .inl (cyB, S.R_B.len a, .inl (S.R_B.row a)) else .inl (cyI, S.R_I.len a, .inl (S.R_I.row a))
theorem wAt_O_Moment (cyB : ClassId) (cyI : ClassId) (S : wPS) {a : Nat} (h : S.K a = 0) : wPF cyB cyI S a = .inr (0, [.int (S.O_Moment.f_today a), .int (S.O_Moment.f_births a), .int (S.O_Moment.f_debts a), .int (S.O_Moment.f_heard a), va_rf (S.O_Moment.f_ages a), va_rf (S.O_Moment.f_pastAges a), va_rf (S.O_Moment.f_birthsIn a), va_rf (S.O_Moment.f_debtAmounts a), va_rf (S.O_Moment.f_debtNumbers a), va_rf (S.O_Moment.f_heardHouses a), va_rf (S.O_Moment.f_heardNumbers a)]) := by simp [wPF, h]
theorem wGt_O_Moment (cyB : ClassId) (cyI : ClassId) (X : va_W) (S : wPS) {a : Nat} (hL : a ∈ S.L) (h : S.K a = 0) : ∃ k : Nat, (X ++ va_pl S.L (wPF cyB cyI S))[k]? = some (a, wPF cyB cyI S a) ∧ (X ++ va_pl S.L (wPF cyB cyI S))[k]? = some (a, .inr (0, [.int (S.O_Moment.f_today a), .int (S.O_Moment.f_births a), .int (S.O_Moment.f_debts a), .int (S.O_Moment.f_heard a), va_rf (S.O_Moment.f_ages a), va_rf (S.O_Moment.f_pastAges a), va_rf (S.O_Moment.f_birthsIn a), va_rf (S.O_Moment.f_debtAmounts a), va_rf (S.O_Moment.f_debtNumbers a), va_rf (S.O_Moment.f_heardHouses a), va_rf (S.O_Moment.f_heardNumbers a)])) := by
  obtain ⟨k, hk⟩ := va_pl_get (X := X) (f := wPF cyB cyI S) hL
  exact ⟨k, hk, hk.trans (congrArg (fun e => some (a, e)) (wAt_O_Moment cyB cyI S h))⟩
theorem wSt_O_Moment_f_today (cyB : ClassId) (cyI : ClassId) (S : wPS) {a : Nat} (h : S.K a = 0) (v : Int32) (b : Nat) : va_up (wPF cyB cyI S) a (.inr (0, [.int v, .int (S.O_Moment.f_births a), .int (S.O_Moment.f_debts a), .int (S.O_Moment.f_heard a), va_rf (S.O_Moment.f_ages a), va_rf (S.O_Moment.f_pastAges a), va_rf (S.O_Moment.f_birthsIn a), va_rf (S.O_Moment.f_debtAmounts a), va_rf (S.O_Moment.f_debtNumbers a), va_rf (S.O_Moment.f_heardHouses a), va_rf (S.O_Moment.f_heardNumbers a)])) b = wPF cyB cyI { S with O_Moment := { S.O_Moment with f_today := va_up S.O_Moment.f_today a v } } b := by by_cases hb : b = a <;> first | (simp only [wPF, va_up_ne _ _ hb]; done) | (simp only [wPF, va_up, if_neg hb]; done) | simp [wPF, va_re, va_up, va_rf, hb, h]
theorem wPu_O_Moment_f_today (cyB : ClassId) (cyI : ClassId) (X : va_W) (S : wPS) {A : Nat → Prop} {a k : Nat} (hD : va_D A (X ++ va_pl S.L (wPF cyB cyI S))) (hL : a ∈ S.L) (h : S.K a = 0) (hk : (X ++ va_pl S.L (wPF cyB cyI S))[k]? = some (a, wPF cyB cyI S a)) (v : Int32) : (X ++ va_pl S.L (wPF cyB cyI S)).set k (a, .inr (0, [.int v, .int (S.O_Moment.f_births a), .int (S.O_Moment.f_debts a), .int (S.O_Moment.f_heard a), va_rf (S.O_Moment.f_ages a), va_rf (S.O_Moment.f_pastAges a), va_rf (S.O_Moment.f_birthsIn a), va_rf (S.O_Moment.f_debtAmounts a), va_rf (S.O_Moment.f_debtNumbers a), va_rf (S.O_Moment.f_heardHouses a), va_rf (S.O_Moment.f_heardNumbers a)])) = X ++ va_pl S.L (wPF cyB cyI { S with O_Moment := { S.O_Moment with f_today := va_up S.O_Moment.f_today a v } }) := by
  rw [va_pl_set hD hL hk]
  exact congrArg (fun l => X ++ l) (va_pl_congr (wSt_O_Moment_f_today cyB cyI S h v))
theorem wSt_O_Moment_f_births (cyB : ClassId) (cyI : ClassId) (S : wPS) {a : Nat} (h : S.K a = 0) (v : Int32) (b : Nat) : va_up (wPF cyB cyI S) a (.inr (0, [.int (S.O_Moment.f_today a), .int v, .int (S.O_Moment.f_debts a), .int (S.O_Moment.f_heard a), va_rf (S.O_Moment.f_ages a), va_rf (S.O_Moment.f_pastAges a), va_rf (S.O_Moment.f_birthsIn a), va_rf (S.O_Moment.f_debtAmounts a), va_rf (S.O_Moment.f_debtNumbers a), va_rf (S.O_Moment.f_heardHouses a), va_rf (S.O_Moment.f_heardNumbers a)])) b = wPF cyB cyI { S with O_Moment := { S.O_Moment with f_births := va_up S.O_Moment.f_births a v } } b := by by_cases hb : b = a <;> first | (simp only [wPF, va_up_ne _ _ hb]; done) | (simp only [wPF, va_up, if_neg hb]; done) | simp [wPF, va_re, va_up, va_rf, hb, h]
theorem wPu_O_Moment_f_births (cyB : ClassId) (cyI : ClassId) (X : va_W) (S : wPS) {A : Nat → Prop} {a k : Nat} (hD : va_D A (X ++ va_pl S.L (wPF cyB cyI S))) (hL : a ∈ S.L) (h : S.K a = 0) (hk : (X ++ va_pl S.L (wPF cyB cyI S))[k]? = some (a, wPF cyB cyI S a)) (v : Int32) : (X ++ va_pl S.L (wPF cyB cyI S)).set k (a, .inr (0, [.int (S.O_Moment.f_today a), .int v, .int (S.O_Moment.f_debts a), .int (S.O_Moment.f_heard a), va_rf (S.O_Moment.f_ages a), va_rf (S.O_Moment.f_pastAges a), va_rf (S.O_Moment.f_birthsIn a), va_rf (S.O_Moment.f_debtAmounts a), va_rf (S.O_Moment.f_debtNumbers a), va_rf (S.O_Moment.f_heardHouses a), va_rf (S.O_Moment.f_heardNumbers a)])) = X ++ va_pl S.L (wPF cyB cyI { S with O_Moment := { S.O_Moment with f_births := va_up S.O_Moment.f_births a v } }) := by
  rw [va_pl_set hD hL hk]
  exact congrArg (fun l => X ++ l) (va_pl_congr (wSt_O_Moment_f_births cyB cyI S h v))
theorem wSt_O_Moment_f_debts (cyB : ClassId) (cyI : ClassId) (S : wPS) {a : Nat} (h : S.K a = 0) (v : Int32) (b : Nat) : va_up (wPF cyB cyI S) a (.inr (0, [.int (S.O_Moment.f_today a), .int (S.O_Moment.f_births a), .int v, .int (S.O_Moment.f_heard a), va_rf (S.O_Moment.f_ages a), va_rf (S.O_Moment.f_pastAges a), va_rf (S.O_Moment.f_birthsIn a), va_rf (S.O_Moment.f_debtAmounts a), va_rf (S.O_Moment.f_debtNumbers a), va_rf (S.O_Moment.f_heardHouses a), va_rf (S.O_Moment.f_heardNumbers a)])) b = wPF cyB cyI { S with O_Moment := { S.O_Moment with f_debts := va_up S.O_Moment.f_debts a v } } b := by by_cases hb : b = a <;> first | (simp only [wPF, va_up_ne _ _ hb]; done) | (simp only [wPF, va_up, if_neg hb]; done) | simp [wPF, va_re, va_up, va_rf, hb, h]
theorem wPu_O_Moment_f_debts (cyB : ClassId) (cyI : ClassId) (X : va_W) (S : wPS) {A : Nat → Prop} {a k : Nat} (hD : va_D A (X ++ va_pl S.L (wPF cyB cyI S))) (hL : a ∈ S.L) (h : S.K a = 0) (hk : (X ++ va_pl S.L (wPF cyB cyI S))[k]? = some (a, wPF cyB cyI S a)) (v : Int32) : (X ++ va_pl S.L (wPF cyB cyI S)).set k (a, .inr (0, [.int (S.O_Moment.f_today a), .int (S.O_Moment.f_births a), .int v, .int (S.O_Moment.f_heard a), va_rf (S.O_Moment.f_ages a), va_rf (S.O_Moment.f_pastAges a), va_rf (S.O_Moment.f_birthsIn a), va_rf (S.O_Moment.f_debtAmounts a), va_rf (S.O_Moment.f_debtNumbers a), va_rf (S.O_Moment.f_heardHouses a), va_rf (S.O_Moment.f_heardNumbers a)])) = X ++ va_pl S.L (wPF cyB cyI { S with O_Moment := { S.O_Moment with f_debts := va_up S.O_Moment.f_debts a v } }) := by
  rw [va_pl_set hD hL hk]
  exact congrArg (fun l => X ++ l) (va_pl_congr (wSt_O_Moment_f_debts cyB cyI S h v))
theorem wSt_O_Moment_f_heard (cyB : ClassId) (cyI : ClassId) (S : wPS) {a : Nat} (h : S.K a = 0) (v : Int32) (b : Nat) : va_up (wPF cyB cyI S) a (.inr (0, [.int (S.O_Moment.f_today a), .int (S.O_Moment.f_births a), .int (S.O_Moment.f_debts a), .int v, va_rf (S.O_Moment.f_ages a), va_rf (S.O_Moment.f_pastAges a), va_rf (S.O_Moment.f_birthsIn a), va_rf (S.O_Moment.f_debtAmounts a), va_rf (S.O_Moment.f_debtNumbers a), va_rf (S.O_Moment.f_heardHouses a), va_rf (S.O_Moment.f_heardNumbers a)])) b = wPF cyB cyI { S with O_Moment := { S.O_Moment with f_heard := va_up S.O_Moment.f_heard a v } } b := by by_cases hb : b = a <;> first | (simp only [wPF, va_up_ne _ _ hb]; done) | (simp only [wPF, va_up, if_neg hb]; done) | simp [wPF, va_re, va_up, va_rf, hb, h]
theorem wPu_O_Moment_f_heard (cyB : ClassId) (cyI : ClassId) (X : va_W) (S : wPS) {A : Nat → Prop} {a k : Nat} (hD : va_D A (X ++ va_pl S.L (wPF cyB cyI S))) (hL : a ∈ S.L) (h : S.K a = 0) (hk : (X ++ va_pl S.L (wPF cyB cyI S))[k]? = some (a, wPF cyB cyI S a)) (v : Int32) : (X ++ va_pl S.L (wPF cyB cyI S)).set k (a, .inr (0, [.int (S.O_Moment.f_today a), .int (S.O_Moment.f_births a), .int (S.O_Moment.f_debts a), .int v, va_rf (S.O_Moment.f_ages a), va_rf (S.O_Moment.f_pastAges a), va_rf (S.O_Moment.f_birthsIn a), va_rf (S.O_Moment.f_debtAmounts a), va_rf (S.O_Moment.f_debtNumbers a), va_rf (S.O_Moment.f_heardHouses a), va_rf (S.O_Moment.f_heardNumbers a)])) = X ++ va_pl S.L (wPF cyB cyI { S with O_Moment := { S.O_Moment with f_heard := va_up S.O_Moment.f_heard a v } }) := by
  rw [va_pl_set hD hL hk]
  exact congrArg (fun l => X ++ l) (va_pl_congr (wSt_O_Moment_f_heard cyB cyI S h v))
theorem wSt_O_Moment_f_ages (cyB : ClassId) (cyI : ClassId) (S : wPS) {a : Nat} (h : S.K a = 0) (v : Option Nat) (b : Nat) : va_up (wPF cyB cyI S) a (.inr (0, [.int (S.O_Moment.f_today a), .int (S.O_Moment.f_births a), .int (S.O_Moment.f_debts a), .int (S.O_Moment.f_heard a), va_rf v, va_rf (S.O_Moment.f_pastAges a), va_rf (S.O_Moment.f_birthsIn a), va_rf (S.O_Moment.f_debtAmounts a), va_rf (S.O_Moment.f_debtNumbers a), va_rf (S.O_Moment.f_heardHouses a), va_rf (S.O_Moment.f_heardNumbers a)])) b = wPF cyB cyI { S with O_Moment := { S.O_Moment with f_ages := va_up S.O_Moment.f_ages a v } } b := by by_cases hb : b = a <;> first | (simp only [wPF, va_up_ne _ _ hb]; done) | (simp only [wPF, va_up, if_neg hb]; done) | simp [wPF, va_re, va_up, va_rf, hb, h]
theorem wPu_O_Moment_f_ages (cyB : ClassId) (cyI : ClassId) (X : va_W) (S : wPS) {A : Nat → Prop} {a k : Nat} (hD : va_D A (X ++ va_pl S.L (wPF cyB cyI S))) (hL : a ∈ S.L) (h : S.K a = 0) (hk : (X ++ va_pl S.L (wPF cyB cyI S))[k]? = some (a, wPF cyB cyI S a)) (v : Option Nat) : (X ++ va_pl S.L (wPF cyB cyI S)).set k (a, .inr (0, [.int (S.O_Moment.f_today a), .int (S.O_Moment.f_births a), .int (S.O_Moment.f_debts a), .int (S.O_Moment.f_heard a), va_rf v, va_rf (S.O_Moment.f_pastAges a), va_rf (S.O_Moment.f_birthsIn a), va_rf (S.O_Moment.f_debtAmounts a), va_rf (S.O_Moment.f_debtNumbers a), va_rf (S.O_Moment.f_heardHouses a), va_rf (S.O_Moment.f_heardNumbers a)])) = X ++ va_pl S.L (wPF cyB cyI { S with O_Moment := { S.O_Moment with f_ages := va_up S.O_Moment.f_ages a v } }) := by
  rw [va_pl_set hD hL hk]
  exact congrArg (fun l => X ++ l) (va_pl_congr (wSt_O_Moment_f_ages cyB cyI S h v))
theorem wSt_O_Moment_f_pastAges (cyB : ClassId) (cyI : ClassId) (S : wPS) {a : Nat} (h : S.K a = 0) (v : Option Nat) (b : Nat) : va_up (wPF cyB cyI S) a (.inr (0, [.int (S.O_Moment.f_today a), .int (S.O_Moment.f_births a), .int (S.O_Moment.f_debts a), .int (S.O_Moment.f_heard a), va_rf (S.O_Moment.f_ages a), va_rf v, va_rf (S.O_Moment.f_birthsIn a), va_rf (S.O_Moment.f_debtAmounts a), va_rf (S.O_Moment.f_debtNumbers a), va_rf (S.O_Moment.f_heardHouses a), va_rf (S.O_Moment.f_heardNumbers a)])) b = wPF cyB cyI { S with O_Moment := { S.O_Moment with f_pastAges := va_up S.O_Moment.f_pastAges a v } } b := by by_cases hb : b = a <;> first | (simp only [wPF, va_up_ne _ _ hb]; done) | (simp only [wPF, va_up, if_neg hb]; done) | simp [wPF, va_re, va_up, va_rf, hb, h]
theorem wPu_O_Moment_f_pastAges (cyB : ClassId) (cyI : ClassId) (X : va_W) (S : wPS) {A : Nat → Prop} {a k : Nat} (hD : va_D A (X ++ va_pl S.L (wPF cyB cyI S))) (hL : a ∈ S.L) (h : S.K a = 0) (hk : (X ++ va_pl S.L (wPF cyB cyI S))[k]? = some (a, wPF cyB cyI S a)) (v : Option Nat) : (X ++ va_pl S.L (wPF cyB cyI S)).set k (a, .inr (0, [.int (S.O_Moment.f_today a), .int (S.O_Moment.f_births a), .int (S.O_Moment.f_debts a), .int (S.O_Moment.f_heard a), va_rf (S.O_Moment.f_ages a), va_rf v, va_rf (S.O_Moment.f_birthsIn a), va_rf (S.O_Moment.f_debtAmounts a), va_rf (S.O_Moment.f_debtNumbers a), va_rf (S.O_Moment.f_heardHouses a), va_rf (S.O_Moment.f_heardNumbers a)])) = X ++ va_pl S.L (wPF cyB cyI { S with O_Moment := { S.O_Moment with f_pastAges := va_up S.O_Moment.f_pastAges a v } }) := by
  rw [va_pl_set hD hL hk]
  exact congrArg (fun l => X ++ l) (va_pl_congr (wSt_O_Moment_f_pastAges cyB cyI S h v))
theorem wSt_O_Moment_f_birthsIn (cyB : ClassId) (cyI : ClassId) (S : wPS) {a : Nat} (h : S.K a = 0) (v : Option Nat) (b : Nat) : va_up (wPF cyB cyI S) a (.inr (0, [.int (S.O_Moment.f_today a), .int (S.O_Moment.f_births a), .int (S.O_Moment.f_debts a), .int (S.O_Moment.f_heard a), va_rf (S.O_Moment.f_ages a), va_rf (S.O_Moment.f_pastAges a), va_rf v, va_rf (S.O_Moment.f_debtAmounts a), va_rf (S.O_Moment.f_debtNumbers a), va_rf (S.O_Moment.f_heardHouses a), va_rf (S.O_Moment.f_heardNumbers a)])) b = wPF cyB cyI { S with O_Moment := { S.O_Moment with f_birthsIn := va_up S.O_Moment.f_birthsIn a v } } b := by by_cases hb : b = a <;> first | (simp only [wPF, va_up_ne _ _ hb]; done) | (simp only [wPF, va_up, if_neg hb]; done) | simp [wPF, va_re, va_up, va_rf, hb, h]
theorem wPu_O_Moment_f_birthsIn (cyB : ClassId) (cyI : ClassId) (X : va_W) (S : wPS) {A : Nat → Prop} {a k : Nat} (hD : va_D A (X ++ va_pl S.L (wPF cyB cyI S))) (hL : a ∈ S.L) (h : S.K a = 0) (hk : (X ++ va_pl S.L (wPF cyB cyI S))[k]? = some (a, wPF cyB cyI S a)) (v : Option Nat) : (X ++ va_pl S.L (wPF cyB cyI S)).set k (a, .inr (0, [.int (S.O_Moment.f_today a), .int (S.O_Moment.f_births a), .int (S.O_Moment.f_debts a), .int (S.O_Moment.f_heard a), va_rf (S.O_Moment.f_ages a), va_rf (S.O_Moment.f_pastAges a), va_rf v, va_rf (S.O_Moment.f_debtAmounts a), va_rf (S.O_Moment.f_debtNumbers a), va_rf (S.O_Moment.f_heardHouses a), va_rf (S.O_Moment.f_heardNumbers a)])) = X ++ va_pl S.L (wPF cyB cyI { S with O_Moment := { S.O_Moment with f_birthsIn := va_up S.O_Moment.f_birthsIn a v } }) := by
  rw [va_pl_set hD hL hk]
  exact congrArg (fun l => X ++ l) (va_pl_congr (wSt_O_Moment_f_birthsIn cyB cyI S h v))
theorem wSt_O_Moment_f_debtAmounts (cyB : ClassId) (cyI : ClassId) (S : wPS) {a : Nat} (h : S.K a = 0) (v : Option Nat) (b : Nat) : va_up (wPF cyB cyI S) a (.inr (0, [.int (S.O_Moment.f_today a), .int (S.O_Moment.f_births a), .int (S.O_Moment.f_debts a), .int (S.O_Moment.f_heard a), va_rf (S.O_Moment.f_ages a), va_rf (S.O_Moment.f_pastAges a), va_rf (S.O_Moment.f_birthsIn a), va_rf v, va_rf (S.O_Moment.f_debtNumbers a), va_rf (S.O_Moment.f_heardHouses a), va_rf (S.O_Moment.f_heardNumbers a)])) b = wPF cyB cyI { S with O_Moment := { S.O_Moment with f_debtAmounts := va_up S.O_Moment.f_debtAmounts a v } } b := by by_cases hb : b = a <;> first | (simp only [wPF, va_up_ne _ _ hb]; done) | (simp only [wPF, va_up, if_neg hb]; done) | simp [wPF, va_re, va_up, va_rf, hb, h]
theorem wPu_O_Moment_f_debtAmounts (cyB : ClassId) (cyI : ClassId) (X : va_W) (S : wPS) {A : Nat → Prop} {a k : Nat} (hD : va_D A (X ++ va_pl S.L (wPF cyB cyI S))) (hL : a ∈ S.L) (h : S.K a = 0) (hk : (X ++ va_pl S.L (wPF cyB cyI S))[k]? = some (a, wPF cyB cyI S a)) (v : Option Nat) : (X ++ va_pl S.L (wPF cyB cyI S)).set k (a, .inr (0, [.int (S.O_Moment.f_today a), .int (S.O_Moment.f_births a), .int (S.O_Moment.f_debts a), .int (S.O_Moment.f_heard a), va_rf (S.O_Moment.f_ages a), va_rf (S.O_Moment.f_pastAges a), va_rf (S.O_Moment.f_birthsIn a), va_rf v, va_rf (S.O_Moment.f_debtNumbers a), va_rf (S.O_Moment.f_heardHouses a), va_rf (S.O_Moment.f_heardNumbers a)])) = X ++ va_pl S.L (wPF cyB cyI { S with O_Moment := { S.O_Moment with f_debtAmounts := va_up S.O_Moment.f_debtAmounts a v } }) := by
  rw [va_pl_set hD hL hk]
  exact congrArg (fun l => X ++ l) (va_pl_congr (wSt_O_Moment_f_debtAmounts cyB cyI S h v))
theorem wSt_O_Moment_f_debtNumbers (cyB : ClassId) (cyI : ClassId) (S : wPS) {a : Nat} (h : S.K a = 0) (v : Option Nat) (b : Nat) : va_up (wPF cyB cyI S) a (.inr (0, [.int (S.O_Moment.f_today a), .int (S.O_Moment.f_births a), .int (S.O_Moment.f_debts a), .int (S.O_Moment.f_heard a), va_rf (S.O_Moment.f_ages a), va_rf (S.O_Moment.f_pastAges a), va_rf (S.O_Moment.f_birthsIn a), va_rf (S.O_Moment.f_debtAmounts a), va_rf v, va_rf (S.O_Moment.f_heardHouses a), va_rf (S.O_Moment.f_heardNumbers a)])) b = wPF cyB cyI { S with O_Moment := { S.O_Moment with f_debtNumbers := va_up S.O_Moment.f_debtNumbers a v } } b := by by_cases hb : b = a <;> first | (simp only [wPF, va_up_ne _ _ hb]; done) | (simp only [wPF, va_up, if_neg hb]; done) | simp [wPF, va_re, va_up, va_rf, hb, h]
theorem wPu_O_Moment_f_debtNumbers (cyB : ClassId) (cyI : ClassId) (X : va_W) (S : wPS) {A : Nat → Prop} {a k : Nat} (hD : va_D A (X ++ va_pl S.L (wPF cyB cyI S))) (hL : a ∈ S.L) (h : S.K a = 0) (hk : (X ++ va_pl S.L (wPF cyB cyI S))[k]? = some (a, wPF cyB cyI S a)) (v : Option Nat) : (X ++ va_pl S.L (wPF cyB cyI S)).set k (a, .inr (0, [.int (S.O_Moment.f_today a), .int (S.O_Moment.f_births a), .int (S.O_Moment.f_debts a), .int (S.O_Moment.f_heard a), va_rf (S.O_Moment.f_ages a), va_rf (S.O_Moment.f_pastAges a), va_rf (S.O_Moment.f_birthsIn a), va_rf (S.O_Moment.f_debtAmounts a), va_rf v, va_rf (S.O_Moment.f_heardHouses a), va_rf (S.O_Moment.f_heardNumbers a)])) = X ++ va_pl S.L (wPF cyB cyI { S with O_Moment := { S.O_Moment with f_debtNumbers := va_up S.O_Moment.f_debtNumbers a v } }) := by
  rw [va_pl_set hD hL hk]
  exact congrArg (fun l => X ++ l) (va_pl_congr (wSt_O_Moment_f_debtNumbers cyB cyI S h v))
theorem wSt_O_Moment_f_heardHouses (cyB : ClassId) (cyI : ClassId) (S : wPS) {a : Nat} (h : S.K a = 0) (v : Option Nat) (b : Nat) : va_up (wPF cyB cyI S) a (.inr (0, [.int (S.O_Moment.f_today a), .int (S.O_Moment.f_births a), .int (S.O_Moment.f_debts a), .int (S.O_Moment.f_heard a), va_rf (S.O_Moment.f_ages a), va_rf (S.O_Moment.f_pastAges a), va_rf (S.O_Moment.f_birthsIn a), va_rf (S.O_Moment.f_debtAmounts a), va_rf (S.O_Moment.f_debtNumbers a), va_rf v, va_rf (S.O_Moment.f_heardNumbers a)])) b = wPF cyB cyI { S with O_Moment := { S.O_Moment with f_heardHouses := va_up S.O_Moment.f_heardHouses a v } } b := by by_cases hb : b = a <;> first | (simp only [wPF, va_up_ne _ _ hb]; done) | (simp only [wPF, va_up, if_neg hb]; done) | simp [wPF, va_re, va_up, va_rf, hb, h]
theorem wPu_O_Moment_f_heardHouses (cyB : ClassId) (cyI : ClassId) (X : va_W) (S : wPS) {A : Nat → Prop} {a k : Nat} (hD : va_D A (X ++ va_pl S.L (wPF cyB cyI S))) (hL : a ∈ S.L) (h : S.K a = 0) (hk : (X ++ va_pl S.L (wPF cyB cyI S))[k]? = some (a, wPF cyB cyI S a)) (v : Option Nat) : (X ++ va_pl S.L (wPF cyB cyI S)).set k (a, .inr (0, [.int (S.O_Moment.f_today a), .int (S.O_Moment.f_births a), .int (S.O_Moment.f_debts a), .int (S.O_Moment.f_heard a), va_rf (S.O_Moment.f_ages a), va_rf (S.O_Moment.f_pastAges a), va_rf (S.O_Moment.f_birthsIn a), va_rf (S.O_Moment.f_debtAmounts a), va_rf (S.O_Moment.f_debtNumbers a), va_rf v, va_rf (S.O_Moment.f_heardNumbers a)])) = X ++ va_pl S.L (wPF cyB cyI { S with O_Moment := { S.O_Moment with f_heardHouses := va_up S.O_Moment.f_heardHouses a v } }) := by
  rw [va_pl_set hD hL hk]
  exact congrArg (fun l => X ++ l) (va_pl_congr (wSt_O_Moment_f_heardHouses cyB cyI S h v))
theorem wSt_O_Moment_f_heardNumbers (cyB : ClassId) (cyI : ClassId) (S : wPS) {a : Nat} (h : S.K a = 0) (v : Option Nat) (b : Nat) : va_up (wPF cyB cyI S) a (.inr (0, [.int (S.O_Moment.f_today a), .int (S.O_Moment.f_births a), .int (S.O_Moment.f_debts a), .int (S.O_Moment.f_heard a), va_rf (S.O_Moment.f_ages a), va_rf (S.O_Moment.f_pastAges a), va_rf (S.O_Moment.f_birthsIn a), va_rf (S.O_Moment.f_debtAmounts a), va_rf (S.O_Moment.f_debtNumbers a), va_rf (S.O_Moment.f_heardHouses a), va_rf v])) b = wPF cyB cyI { S with O_Moment := { S.O_Moment with f_heardNumbers := va_up S.O_Moment.f_heardNumbers a v } } b := by by_cases hb : b = a <;> first | (simp only [wPF, va_up_ne _ _ hb]; done) | (simp only [wPF, va_up, if_neg hb]; done) | simp [wPF, va_re, va_up, va_rf, hb, h]
theorem wPu_O_Moment_f_heardNumbers (cyB : ClassId) (cyI : ClassId) (X : va_W) (S : wPS) {A : Nat → Prop} {a k : Nat} (hD : va_D A (X ++ va_pl S.L (wPF cyB cyI S))) (hL : a ∈ S.L) (h : S.K a = 0) (hk : (X ++ va_pl S.L (wPF cyB cyI S))[k]? = some (a, wPF cyB cyI S a)) (v : Option Nat) : (X ++ va_pl S.L (wPF cyB cyI S)).set k (a, .inr (0, [.int (S.O_Moment.f_today a), .int (S.O_Moment.f_births a), .int (S.O_Moment.f_debts a), .int (S.O_Moment.f_heard a), va_rf (S.O_Moment.f_ages a), va_rf (S.O_Moment.f_pastAges a), va_rf (S.O_Moment.f_birthsIn a), va_rf (S.O_Moment.f_debtAmounts a), va_rf (S.O_Moment.f_debtNumbers a), va_rf (S.O_Moment.f_heardHouses a), va_rf v])) = X ++ va_pl S.L (wPF cyB cyI { S with O_Moment := { S.O_Moment with f_heardNumbers := va_up S.O_Moment.f_heardNumbers a v } }) := by
  rw [va_pl_set hD hL hk]
  exact congrArg (fun l => X ++ l) (va_pl_congr (wSt_O_Moment_f_heardNumbers cyB cyI S h v))
theorem wNw_O_Moment (cyB : ClassId) (cyI : ClassId) (S : wPS) (a b : Nat) : va_up (wPF cyB cyI S) a (.inr (0, [.int 0, .int 0, .int 0, .int 0, .null, .null, .null, .null, .null, .null, .null])) b = wPF cyB cyI { S with L := S.L ++ [a], K := va_up S.K a 0, O_Moment := { f_today := va_up S.O_Moment.f_today a 0, f_births := va_up S.O_Moment.f_births a 0, f_debts := va_up S.O_Moment.f_debts a 0, f_heard := va_up S.O_Moment.f_heard a 0, f_ages := va_up S.O_Moment.f_ages a none, f_pastAges := va_up S.O_Moment.f_pastAges a none, f_birthsIn := va_up S.O_Moment.f_birthsIn a none, f_debtAmounts := va_up S.O_Moment.f_debtAmounts a none, f_debtNumbers := va_up S.O_Moment.f_debtNumbers a none, f_heardHouses := va_up S.O_Moment.f_heardHouses a none, f_heardNumbers := va_up S.O_Moment.f_heardNumbers a none } } b := by by_cases hb : b = a <;> first | (simp only [wPF, va_up_ne _ _ hb]; done) | (simp only [wPF, va_up, if_neg hb]; done) | simp [wPF, va_re, va_up, va_rf, hb]
theorem wPn_O_Moment (cyB : ClassId) (cyI : ClassId) (X : va_W) (S : wPS) {a : Nat} (ha : a ∉ S.L) : (X ++ va_pl S.L (wPF cyB cyI S)) ++ [(a, .inr (0, [.int 0, .int 0, .int 0, .int 0, .null, .null, .null, .null, .null, .null, .null]))] = X ++ va_pl (S.L ++ [a]) (wPF cyB cyI { S with L := S.L ++ [a], K := va_up S.K a 0, O_Moment := { f_today := va_up S.O_Moment.f_today a 0, f_births := va_up S.O_Moment.f_births a 0, f_debts := va_up S.O_Moment.f_debts a 0, f_heard := va_up S.O_Moment.f_heard a 0, f_ages := va_up S.O_Moment.f_ages a none, f_pastAges := va_up S.O_Moment.f_pastAges a none, f_birthsIn := va_up S.O_Moment.f_birthsIn a none, f_debtAmounts := va_up S.O_Moment.f_debtAmounts a none, f_debtNumbers := va_up S.O_Moment.f_debtNumbers a none, f_heardHouses := va_up S.O_Moment.f_heardHouses a none, f_heardNumbers := va_up S.O_Moment.f_heardNumbers a none } }) := by
  rw [List.append_assoc, va_pl_push ha]
  exact congrArg (fun l => X ++ l) (va_pl_congr (wNw_O_Moment cyB cyI S a))
theorem wAt_O_Row (cyB : ClassId) (cyI : ClassId) (S : wPS) {a : Nat} (h : S.K a = 1) : wPF cyB cyI S a = .inr (1, [va_rf (S.O_Row.f_cells a)]) := by simp [wPF, h]
theorem wGt_O_Row (cyB : ClassId) (cyI : ClassId) (X : va_W) (S : wPS) {a : Nat} (hL : a ∈ S.L) (h : S.K a = 1) : ∃ k : Nat, (X ++ va_pl S.L (wPF cyB cyI S))[k]? = some (a, wPF cyB cyI S a) ∧ (X ++ va_pl S.L (wPF cyB cyI S))[k]? = some (a, .inr (1, [va_rf (S.O_Row.f_cells a)])) := by
  obtain ⟨k, hk⟩ := va_pl_get (X := X) (f := wPF cyB cyI S) hL
  exact ⟨k, hk, hk.trans (congrArg (fun e => some (a, e)) (wAt_O_Row cyB cyI S h))⟩
theorem wSt_O_Row_f_cells (cyB : ClassId) (cyI : ClassId) (S : wPS) {a : Nat} (h : S.K a = 1) (v : Option Nat) (b : Nat) : va_up (wPF cyB cyI S) a (.inr (1, [va_rf v])) b = wPF cyB cyI { S with O_Row := { f_cells := va_up S.O_Row.f_cells a v } } b := by by_cases hb : b = a <;> first | (simp only [wPF, va_up_ne _ _ hb]; done) | (simp only [wPF, va_up, if_neg hb]; done) | simp [wPF, va_re, va_up, va_rf, hb, h]
theorem wPu_O_Row_f_cells (cyB : ClassId) (cyI : ClassId) (X : va_W) (S : wPS) {A : Nat → Prop} {a k : Nat} (hD : va_D A (X ++ va_pl S.L (wPF cyB cyI S))) (hL : a ∈ S.L) (h : S.K a = 1) (hk : (X ++ va_pl S.L (wPF cyB cyI S))[k]? = some (a, wPF cyB cyI S a)) (v : Option Nat) : (X ++ va_pl S.L (wPF cyB cyI S)).set k (a, .inr (1, [va_rf v])) = X ++ va_pl S.L (wPF cyB cyI { S with O_Row := { f_cells := va_up S.O_Row.f_cells a v } }) := by
  rw [va_pl_set hD hL hk]
  exact congrArg (fun l => X ++ l) (va_pl_congr (wSt_O_Row_f_cells cyB cyI S h v))
theorem wNw_O_Row (cyB : ClassId) (cyI : ClassId) (S : wPS) (a b : Nat) : va_up (wPF cyB cyI S) a (.inr (1, [.null])) b = wPF cyB cyI { S with L := S.L ++ [a], K := va_up S.K a 1, O_Row := { f_cells := va_up S.O_Row.f_cells a none } } b := by by_cases hb : b = a <;> first | (simp only [wPF, va_up_ne _ _ hb]; done) | (simp only [wPF, va_up, if_neg hb]; done) | simp [wPF, va_re, va_up, va_rf, hb]
theorem wPn_O_Row (cyB : ClassId) (cyI : ClassId) (X : va_W) (S : wPS) {a : Nat} (ha : a ∉ S.L) : (X ++ va_pl S.L (wPF cyB cyI S)) ++ [(a, .inr (1, [.null]))] = X ++ va_pl (S.L ++ [a]) (wPF cyB cyI { S with L := S.L ++ [a], K := va_up S.K a 1, O_Row := { f_cells := va_up S.O_Row.f_cells a none } }) := by
  rw [List.append_assoc, va_pl_push ha]
  exact congrArg (fun l => X ++ l) (va_pl_congr (wNw_O_Row cyB cyI S a))
theorem wAt_O_BirthStreet (cyB : ClassId) (cyI : ClassId) (S : wPS) {a : Nat} (h : S.K a = 2) : wPF cyB cyI S a = .inr (2, [va_rf (S.O_BirthStreet.f_page a), .int (S.O_BirthStreet.f_letters a), .int (S.O_BirthStreet.f_houses a), .int (S.O_BirthStreet.f_streetsRead a), va_rf (S.O_BirthStreet.f_kinds a), va_rf (S.O_BirthStreet.f_now a), va_rf (S.O_BirthStreet.f_kept a), .int (S.O_BirthStreet.f_isKept a), va_rf (S.O_BirthStreet.f_wouldBe a), va_rf (S.O_BirthStreet.f_possible a), va_rf (S.O_BirthStreet.f_tally a)]) := by simp [wPF, h]
theorem wGt_O_BirthStreet (cyB : ClassId) (cyI : ClassId) (X : va_W) (S : wPS) {a : Nat} (hL : a ∈ S.L) (h : S.K a = 2) : ∃ k : Nat, (X ++ va_pl S.L (wPF cyB cyI S))[k]? = some (a, wPF cyB cyI S a) ∧ (X ++ va_pl S.L (wPF cyB cyI S))[k]? = some (a, .inr (2, [va_rf (S.O_BirthStreet.f_page a), .int (S.O_BirthStreet.f_letters a), .int (S.O_BirthStreet.f_houses a), .int (S.O_BirthStreet.f_streetsRead a), va_rf (S.O_BirthStreet.f_kinds a), va_rf (S.O_BirthStreet.f_now a), va_rf (S.O_BirthStreet.f_kept a), .int (S.O_BirthStreet.f_isKept a), va_rf (S.O_BirthStreet.f_wouldBe a), va_rf (S.O_BirthStreet.f_possible a), va_rf (S.O_BirthStreet.f_tally a)])) := by
  obtain ⟨k, hk⟩ := va_pl_get (X := X) (f := wPF cyB cyI S) hL
  exact ⟨k, hk, hk.trans (congrArg (fun e => some (a, e)) (wAt_O_BirthStreet cyB cyI S h))⟩
theorem wSt_O_BirthStreet_f_page (cyB : ClassId) (cyI : ClassId) (S : wPS) {a : Nat} (h : S.K a = 2) (v : Option Nat) (b : Nat) : va_up (wPF cyB cyI S) a (.inr (2, [va_rf v, .int (S.O_BirthStreet.f_letters a), .int (S.O_BirthStreet.f_houses a), .int (S.O_BirthStreet.f_streetsRead a), va_rf (S.O_BirthStreet.f_kinds a), va_rf (S.O_BirthStreet.f_now a), va_rf (S.O_BirthStreet.f_kept a), .int (S.O_BirthStreet.f_isKept a), va_rf (S.O_BirthStreet.f_wouldBe a), va_rf (S.O_BirthStreet.f_possible a), va_rf (S.O_BirthStreet.f_tally a)])) b = wPF cyB cyI { S with O_BirthStreet := { S.O_BirthStreet with f_page := va_up S.O_BirthStreet.f_page a v } } b := by by_cases hb : b = a <;> first | (simp only [wPF, va_up_ne _ _ hb]; done) | (simp only [wPF, va_up, if_neg hb]; done) | simp [wPF, va_re, va_up, va_rf, hb, h]
theorem wPu_O_BirthStreet_f_page (cyB : ClassId) (cyI : ClassId) (X : va_W) (S : wPS) {A : Nat → Prop} {a k : Nat} (hD : va_D A (X ++ va_pl S.L (wPF cyB cyI S))) (hL : a ∈ S.L) (h : S.K a = 2) (hk : (X ++ va_pl S.L (wPF cyB cyI S))[k]? = some (a, wPF cyB cyI S a)) (v : Option Nat) : (X ++ va_pl S.L (wPF cyB cyI S)).set k (a, .inr (2, [va_rf v, .int (S.O_BirthStreet.f_letters a), .int (S.O_BirthStreet.f_houses a), .int (S.O_BirthStreet.f_streetsRead a), va_rf (S.O_BirthStreet.f_kinds a), va_rf (S.O_BirthStreet.f_now a), va_rf (S.O_BirthStreet.f_kept a), .int (S.O_BirthStreet.f_isKept a), va_rf (S.O_BirthStreet.f_wouldBe a), va_rf (S.O_BirthStreet.f_possible a), va_rf (S.O_BirthStreet.f_tally a)])) = X ++ va_pl S.L (wPF cyB cyI { S with O_BirthStreet := { S.O_BirthStreet with f_page := va_up S.O_BirthStreet.f_page a v } }) := by
  rw [va_pl_set hD hL hk]
  exact congrArg (fun l => X ++ l) (va_pl_congr (wSt_O_BirthStreet_f_page cyB cyI S h v))
theorem wSt_O_BirthStreet_f_letters (cyB : ClassId) (cyI : ClassId) (S : wPS) {a : Nat} (h : S.K a = 2) (v : Int32) (b : Nat) : va_up (wPF cyB cyI S) a (.inr (2, [va_rf (S.O_BirthStreet.f_page a), .int v, .int (S.O_BirthStreet.f_houses a), .int (S.O_BirthStreet.f_streetsRead a), va_rf (S.O_BirthStreet.f_kinds a), va_rf (S.O_BirthStreet.f_now a), va_rf (S.O_BirthStreet.f_kept a), .int (S.O_BirthStreet.f_isKept a), va_rf (S.O_BirthStreet.f_wouldBe a), va_rf (S.O_BirthStreet.f_possible a), va_rf (S.O_BirthStreet.f_tally a)])) b = wPF cyB cyI { S with O_BirthStreet := { S.O_BirthStreet with f_letters := va_up S.O_BirthStreet.f_letters a v } } b := by by_cases hb : b = a <;> first | (simp only [wPF, va_up_ne _ _ hb]; done) | (simp only [wPF, va_up, if_neg hb]; done) | simp [wPF, va_re, va_up, va_rf, hb, h]
theorem wPu_O_BirthStreet_f_letters (cyB : ClassId) (cyI : ClassId) (X : va_W) (S : wPS) {A : Nat → Prop} {a k : Nat} (hD : va_D A (X ++ va_pl S.L (wPF cyB cyI S))) (hL : a ∈ S.L) (h : S.K a = 2) (hk : (X ++ va_pl S.L (wPF cyB cyI S))[k]? = some (a, wPF cyB cyI S a)) (v : Int32) : (X ++ va_pl S.L (wPF cyB cyI S)).set k (a, .inr (2, [va_rf (S.O_BirthStreet.f_page a), .int v, .int (S.O_BirthStreet.f_houses a), .int (S.O_BirthStreet.f_streetsRead a), va_rf (S.O_BirthStreet.f_kinds a), va_rf (S.O_BirthStreet.f_now a), va_rf (S.O_BirthStreet.f_kept a), .int (S.O_BirthStreet.f_isKept a), va_rf (S.O_BirthStreet.f_wouldBe a), va_rf (S.O_BirthStreet.f_possible a), va_rf (S.O_BirthStreet.f_tally a)])) = X ++ va_pl S.L (wPF cyB cyI { S with O_BirthStreet := { S.O_BirthStreet with f_letters := va_up S.O_BirthStreet.f_letters a v } }) := by
  rw [va_pl_set hD hL hk]
  exact congrArg (fun l => X ++ l) (va_pl_congr (wSt_O_BirthStreet_f_letters cyB cyI S h v))
theorem wSt_O_BirthStreet_f_houses (cyB : ClassId) (cyI : ClassId) (S : wPS) {a : Nat} (h : S.K a = 2) (v : Int32) (b : Nat) : va_up (wPF cyB cyI S) a (.inr (2, [va_rf (S.O_BirthStreet.f_page a), .int (S.O_BirthStreet.f_letters a), .int v, .int (S.O_BirthStreet.f_streetsRead a), va_rf (S.O_BirthStreet.f_kinds a), va_rf (S.O_BirthStreet.f_now a), va_rf (S.O_BirthStreet.f_kept a), .int (S.O_BirthStreet.f_isKept a), va_rf (S.O_BirthStreet.f_wouldBe a), va_rf (S.O_BirthStreet.f_possible a), va_rf (S.O_BirthStreet.f_tally a)])) b = wPF cyB cyI { S with O_BirthStreet := { S.O_BirthStreet with f_houses := va_up S.O_BirthStreet.f_houses a v } } b := by by_cases hb : b = a <;> first | (simp only [wPF, va_up_ne _ _ hb]; done) | (simp only [wPF, va_up, if_neg hb]; done) | simp [wPF, va_re, va_up, va_rf, hb, h]
theorem wPu_O_BirthStreet_f_houses (cyB : ClassId) (cyI : ClassId) (X : va_W) (S : wPS) {A : Nat → Prop} {a k : Nat} (hD : va_D A (X ++ va_pl S.L (wPF cyB cyI S))) (hL : a ∈ S.L) (h : S.K a = 2) (hk : (X ++ va_pl S.L (wPF cyB cyI S))[k]? = some (a, wPF cyB cyI S a)) (v : Int32) : (X ++ va_pl S.L (wPF cyB cyI S)).set k (a, .inr (2, [va_rf (S.O_BirthStreet.f_page a), .int (S.O_BirthStreet.f_letters a), .int v, .int (S.O_BirthStreet.f_streetsRead a), va_rf (S.O_BirthStreet.f_kinds a), va_rf (S.O_BirthStreet.f_now a), va_rf (S.O_BirthStreet.f_kept a), .int (S.O_BirthStreet.f_isKept a), va_rf (S.O_BirthStreet.f_wouldBe a), va_rf (S.O_BirthStreet.f_possible a), va_rf (S.O_BirthStreet.f_tally a)])) = X ++ va_pl S.L (wPF cyB cyI { S with O_BirthStreet := { S.O_BirthStreet with f_houses := va_up S.O_BirthStreet.f_houses a v } }) := by
  rw [va_pl_set hD hL hk]
  exact congrArg (fun l => X ++ l) (va_pl_congr (wSt_O_BirthStreet_f_houses cyB cyI S h v))
theorem wSt_O_BirthStreet_f_streetsRead (cyB : ClassId) (cyI : ClassId) (S : wPS) {a : Nat} (h : S.K a = 2) (v : Int32) (b : Nat) : va_up (wPF cyB cyI S) a (.inr (2, [va_rf (S.O_BirthStreet.f_page a), .int (S.O_BirthStreet.f_letters a), .int (S.O_BirthStreet.f_houses a), .int v, va_rf (S.O_BirthStreet.f_kinds a), va_rf (S.O_BirthStreet.f_now a), va_rf (S.O_BirthStreet.f_kept a), .int (S.O_BirthStreet.f_isKept a), va_rf (S.O_BirthStreet.f_wouldBe a), va_rf (S.O_BirthStreet.f_possible a), va_rf (S.O_BirthStreet.f_tally a)])) b = wPF cyB cyI { S with O_BirthStreet := { S.O_BirthStreet with f_streetsRead := va_up S.O_BirthStreet.f_streetsRead a v } } b := by by_cases hb : b = a <;> first | (simp only [wPF, va_up_ne _ _ hb]; done) | (simp only [wPF, va_up, if_neg hb]; done) | simp [wPF, va_re, va_up, va_rf, hb, h]
theorem wPu_O_BirthStreet_f_streetsRead (cyB : ClassId) (cyI : ClassId) (X : va_W) (S : wPS) {A : Nat → Prop} {a k : Nat} (hD : va_D A (X ++ va_pl S.L (wPF cyB cyI S))) (hL : a ∈ S.L) (h : S.K a = 2) (hk : (X ++ va_pl S.L (wPF cyB cyI S))[k]? = some (a, wPF cyB cyI S a)) (v : Int32) : (X ++ va_pl S.L (wPF cyB cyI S)).set k (a, .inr (2, [va_rf (S.O_BirthStreet.f_page a), .int (S.O_BirthStreet.f_letters a), .int (S.O_BirthStreet.f_houses a), .int v, va_rf (S.O_BirthStreet.f_kinds a), va_rf (S.O_BirthStreet.f_now a), va_rf (S.O_BirthStreet.f_kept a), .int (S.O_BirthStreet.f_isKept a), va_rf (S.O_BirthStreet.f_wouldBe a), va_rf (S.O_BirthStreet.f_possible a), va_rf (S.O_BirthStreet.f_tally a)])) = X ++ va_pl S.L (wPF cyB cyI { S with O_BirthStreet := { S.O_BirthStreet with f_streetsRead := va_up S.O_BirthStreet.f_streetsRead a v } }) := by
  rw [va_pl_set hD hL hk]
  exact congrArg (fun l => X ++ l) (va_pl_congr (wSt_O_BirthStreet_f_streetsRead cyB cyI S h v))
theorem wSt_O_BirthStreet_f_kinds (cyB : ClassId) (cyI : ClassId) (S : wPS) {a : Nat} (h : S.K a = 2) (v : Option Nat) (b : Nat) : va_up (wPF cyB cyI S) a (.inr (2, [va_rf (S.O_BirthStreet.f_page a), .int (S.O_BirthStreet.f_letters a), .int (S.O_BirthStreet.f_houses a), .int (S.O_BirthStreet.f_streetsRead a), va_rf v, va_rf (S.O_BirthStreet.f_now a), va_rf (S.O_BirthStreet.f_kept a), .int (S.O_BirthStreet.f_isKept a), va_rf (S.O_BirthStreet.f_wouldBe a), va_rf (S.O_BirthStreet.f_possible a), va_rf (S.O_BirthStreet.f_tally a)])) b = wPF cyB cyI { S with O_BirthStreet := { S.O_BirthStreet with f_kinds := va_up S.O_BirthStreet.f_kinds a v } } b := by by_cases hb : b = a <;> first | (simp only [wPF, va_up_ne _ _ hb]; done) | (simp only [wPF, va_up, if_neg hb]; done) | simp [wPF, va_re, va_up, va_rf, hb, h]
theorem wPu_O_BirthStreet_f_kinds (cyB : ClassId) (cyI : ClassId) (X : va_W) (S : wPS) {A : Nat → Prop} {a k : Nat} (hD : va_D A (X ++ va_pl S.L (wPF cyB cyI S))) (hL : a ∈ S.L) (h : S.K a = 2) (hk : (X ++ va_pl S.L (wPF cyB cyI S))[k]? = some (a, wPF cyB cyI S a)) (v : Option Nat) : (X ++ va_pl S.L (wPF cyB cyI S)).set k (a, .inr (2, [va_rf (S.O_BirthStreet.f_page a), .int (S.O_BirthStreet.f_letters a), .int (S.O_BirthStreet.f_houses a), .int (S.O_BirthStreet.f_streetsRead a), va_rf v, va_rf (S.O_BirthStreet.f_now a), va_rf (S.O_BirthStreet.f_kept a), .int (S.O_BirthStreet.f_isKept a), va_rf (S.O_BirthStreet.f_wouldBe a), va_rf (S.O_BirthStreet.f_possible a), va_rf (S.O_BirthStreet.f_tally a)])) = X ++ va_pl S.L (wPF cyB cyI { S with O_BirthStreet := { S.O_BirthStreet with f_kinds := va_up S.O_BirthStreet.f_kinds a v } }) := by
  rw [va_pl_set hD hL hk]
  exact congrArg (fun l => X ++ l) (va_pl_congr (wSt_O_BirthStreet_f_kinds cyB cyI S h v))
theorem wSt_O_BirthStreet_f_now (cyB : ClassId) (cyI : ClassId) (S : wPS) {a : Nat} (h : S.K a = 2) (v : Option Nat) (b : Nat) : va_up (wPF cyB cyI S) a (.inr (2, [va_rf (S.O_BirthStreet.f_page a), .int (S.O_BirthStreet.f_letters a), .int (S.O_BirthStreet.f_houses a), .int (S.O_BirthStreet.f_streetsRead a), va_rf (S.O_BirthStreet.f_kinds a), va_rf v, va_rf (S.O_BirthStreet.f_kept a), .int (S.O_BirthStreet.f_isKept a), va_rf (S.O_BirthStreet.f_wouldBe a), va_rf (S.O_BirthStreet.f_possible a), va_rf (S.O_BirthStreet.f_tally a)])) b = wPF cyB cyI { S with O_BirthStreet := { S.O_BirthStreet with f_now := va_up S.O_BirthStreet.f_now a v } } b := by by_cases hb : b = a <;> first | (simp only [wPF, va_up_ne _ _ hb]; done) | (simp only [wPF, va_up, if_neg hb]; done) | simp [wPF, va_re, va_up, va_rf, hb, h]
theorem wPu_O_BirthStreet_f_now (cyB : ClassId) (cyI : ClassId) (X : va_W) (S : wPS) {A : Nat → Prop} {a k : Nat} (hD : va_D A (X ++ va_pl S.L (wPF cyB cyI S))) (hL : a ∈ S.L) (h : S.K a = 2) (hk : (X ++ va_pl S.L (wPF cyB cyI S))[k]? = some (a, wPF cyB cyI S a)) (v : Option Nat) : (X ++ va_pl S.L (wPF cyB cyI S)).set k (a, .inr (2, [va_rf (S.O_BirthStreet.f_page a), .int (S.O_BirthStreet.f_letters a), .int (S.O_BirthStreet.f_houses a), .int (S.O_BirthStreet.f_streetsRead a), va_rf (S.O_BirthStreet.f_kinds a), va_rf v, va_rf (S.O_BirthStreet.f_kept a), .int (S.O_BirthStreet.f_isKept a), va_rf (S.O_BirthStreet.f_wouldBe a), va_rf (S.O_BirthStreet.f_possible a), va_rf (S.O_BirthStreet.f_tally a)])) = X ++ va_pl S.L (wPF cyB cyI { S with O_BirthStreet := { S.O_BirthStreet with f_now := va_up S.O_BirthStreet.f_now a v } }) := by
  rw [va_pl_set hD hL hk]
  exact congrArg (fun l => X ++ l) (va_pl_congr (wSt_O_BirthStreet_f_now cyB cyI S h v))
theorem wSt_O_BirthStreet_f_kept (cyB : ClassId) (cyI : ClassId) (S : wPS) {a : Nat} (h : S.K a = 2) (v : Option Nat) (b : Nat) : va_up (wPF cyB cyI S) a (.inr (2, [va_rf (S.O_BirthStreet.f_page a), .int (S.O_BirthStreet.f_letters a), .int (S.O_BirthStreet.f_houses a), .int (S.O_BirthStreet.f_streetsRead a), va_rf (S.O_BirthStreet.f_kinds a), va_rf (S.O_BirthStreet.f_now a), va_rf v, .int (S.O_BirthStreet.f_isKept a), va_rf (S.O_BirthStreet.f_wouldBe a), va_rf (S.O_BirthStreet.f_possible a), va_rf (S.O_BirthStreet.f_tally a)])) b = wPF cyB cyI { S with O_BirthStreet := { S.O_BirthStreet with f_kept := va_up S.O_BirthStreet.f_kept a v } } b := by by_cases hb : b = a <;> first | (simp only [wPF, va_up_ne _ _ hb]; done) | (simp only [wPF, va_up, if_neg hb]; done) | simp [wPF, va_re, va_up, va_rf, hb, h]
theorem wPu_O_BirthStreet_f_kept (cyB : ClassId) (cyI : ClassId) (X : va_W) (S : wPS) {A : Nat → Prop} {a k : Nat} (hD : va_D A (X ++ va_pl S.L (wPF cyB cyI S))) (hL : a ∈ S.L) (h : S.K a = 2) (hk : (X ++ va_pl S.L (wPF cyB cyI S))[k]? = some (a, wPF cyB cyI S a)) (v : Option Nat) : (X ++ va_pl S.L (wPF cyB cyI S)).set k (a, .inr (2, [va_rf (S.O_BirthStreet.f_page a), .int (S.O_BirthStreet.f_letters a), .int (S.O_BirthStreet.f_houses a), .int (S.O_BirthStreet.f_streetsRead a), va_rf (S.O_BirthStreet.f_kinds a), va_rf (S.O_BirthStreet.f_now a), va_rf v, .int (S.O_BirthStreet.f_isKept a), va_rf (S.O_BirthStreet.f_wouldBe a), va_rf (S.O_BirthStreet.f_possible a), va_rf (S.O_BirthStreet.f_tally a)])) = X ++ va_pl S.L (wPF cyB cyI { S with O_BirthStreet := { S.O_BirthStreet with f_kept := va_up S.O_BirthStreet.f_kept a v } }) := by
  rw [va_pl_set hD hL hk]
  exact congrArg (fun l => X ++ l) (va_pl_congr (wSt_O_BirthStreet_f_kept cyB cyI S h v))
theorem wSt_O_BirthStreet_f_isKept (cyB : ClassId) (cyI : ClassId) (S : wPS) {a : Nat} (h : S.K a = 2) (v : Int32) (b : Nat) : va_up (wPF cyB cyI S) a (.inr (2, [va_rf (S.O_BirthStreet.f_page a), .int (S.O_BirthStreet.f_letters a), .int (S.O_BirthStreet.f_houses a), .int (S.O_BirthStreet.f_streetsRead a), va_rf (S.O_BirthStreet.f_kinds a), va_rf (S.O_BirthStreet.f_now a), va_rf (S.O_BirthStreet.f_kept a), .int v, va_rf (S.O_BirthStreet.f_wouldBe a), va_rf (S.O_BirthStreet.f_possible a), va_rf (S.O_BirthStreet.f_tally a)])) b = wPF cyB cyI { S with O_BirthStreet := { S.O_BirthStreet with f_isKept := va_up S.O_BirthStreet.f_isKept a v } } b := by by_cases hb : b = a <;> first | (simp only [wPF, va_up_ne _ _ hb]; done) | (simp only [wPF, va_up, if_neg hb]; done) | simp [wPF, va_re, va_up, va_rf, hb, h]
theorem wPu_O_BirthStreet_f_isKept (cyB : ClassId) (cyI : ClassId) (X : va_W) (S : wPS) {A : Nat → Prop} {a k : Nat} (hD : va_D A (X ++ va_pl S.L (wPF cyB cyI S))) (hL : a ∈ S.L) (h : S.K a = 2) (hk : (X ++ va_pl S.L (wPF cyB cyI S))[k]? = some (a, wPF cyB cyI S a)) (v : Int32) : (X ++ va_pl S.L (wPF cyB cyI S)).set k (a, .inr (2, [va_rf (S.O_BirthStreet.f_page a), .int (S.O_BirthStreet.f_letters a), .int (S.O_BirthStreet.f_houses a), .int (S.O_BirthStreet.f_streetsRead a), va_rf (S.O_BirthStreet.f_kinds a), va_rf (S.O_BirthStreet.f_now a), va_rf (S.O_BirthStreet.f_kept a), .int v, va_rf (S.O_BirthStreet.f_wouldBe a), va_rf (S.O_BirthStreet.f_possible a), va_rf (S.O_BirthStreet.f_tally a)])) = X ++ va_pl S.L (wPF cyB cyI { S with O_BirthStreet := { S.O_BirthStreet with f_isKept := va_up S.O_BirthStreet.f_isKept a v } }) := by
  rw [va_pl_set hD hL hk]
  exact congrArg (fun l => X ++ l) (va_pl_congr (wSt_O_BirthStreet_f_isKept cyB cyI S h v))
theorem wSt_O_BirthStreet_f_wouldBe (cyB : ClassId) (cyI : ClassId) (S : wPS) {a : Nat} (h : S.K a = 2) (v : Option Nat) (b : Nat) : va_up (wPF cyB cyI S) a (.inr (2, [va_rf (S.O_BirthStreet.f_page a), .int (S.O_BirthStreet.f_letters a), .int (S.O_BirthStreet.f_houses a), .int (S.O_BirthStreet.f_streetsRead a), va_rf (S.O_BirthStreet.f_kinds a), va_rf (S.O_BirthStreet.f_now a), va_rf (S.O_BirthStreet.f_kept a), .int (S.O_BirthStreet.f_isKept a), va_rf v, va_rf (S.O_BirthStreet.f_possible a), va_rf (S.O_BirthStreet.f_tally a)])) b = wPF cyB cyI { S with O_BirthStreet := { S.O_BirthStreet with f_wouldBe := va_up S.O_BirthStreet.f_wouldBe a v } } b := by by_cases hb : b = a <;> first | (simp only [wPF, va_up_ne _ _ hb]; done) | (simp only [wPF, va_up, if_neg hb]; done) | simp [wPF, va_re, va_up, va_rf, hb, h]
theorem wPu_O_BirthStreet_f_wouldBe (cyB : ClassId) (cyI : ClassId) (X : va_W) (S : wPS) {A : Nat → Prop} {a k : Nat} (hD : va_D A (X ++ va_pl S.L (wPF cyB cyI S))) (hL : a ∈ S.L) (h : S.K a = 2) (hk : (X ++ va_pl S.L (wPF cyB cyI S))[k]? = some (a, wPF cyB cyI S a)) (v : Option Nat) : (X ++ va_pl S.L (wPF cyB cyI S)).set k (a, .inr (2, [va_rf (S.O_BirthStreet.f_page a), .int (S.O_BirthStreet.f_letters a), .int (S.O_BirthStreet.f_houses a), .int (S.O_BirthStreet.f_streetsRead a), va_rf (S.O_BirthStreet.f_kinds a), va_rf (S.O_BirthStreet.f_now a), va_rf (S.O_BirthStreet.f_kept a), .int (S.O_BirthStreet.f_isKept a), va_rf v, va_rf (S.O_BirthStreet.f_possible a), va_rf (S.O_BirthStreet.f_tally a)])) = X ++ va_pl S.L (wPF cyB cyI { S with O_BirthStreet := { S.O_BirthStreet with f_wouldBe := va_up S.O_BirthStreet.f_wouldBe a v } }) := by
  rw [va_pl_set hD hL hk]
  exact congrArg (fun l => X ++ l) (va_pl_congr (wSt_O_BirthStreet_f_wouldBe cyB cyI S h v))
theorem wSt_O_BirthStreet_f_possible (cyB : ClassId) (cyI : ClassId) (S : wPS) {a : Nat} (h : S.K a = 2) (v : Option Nat) (b : Nat) : va_up (wPF cyB cyI S) a (.inr (2, [va_rf (S.O_BirthStreet.f_page a), .int (S.O_BirthStreet.f_letters a), .int (S.O_BirthStreet.f_houses a), .int (S.O_BirthStreet.f_streetsRead a), va_rf (S.O_BirthStreet.f_kinds a), va_rf (S.O_BirthStreet.f_now a), va_rf (S.O_BirthStreet.f_kept a), .int (S.O_BirthStreet.f_isKept a), va_rf (S.O_BirthStreet.f_wouldBe a), va_rf v, va_rf (S.O_BirthStreet.f_tally a)])) b = wPF cyB cyI { S with O_BirthStreet := { S.O_BirthStreet with f_possible := va_up S.O_BirthStreet.f_possible a v } } b := by by_cases hb : b = a <;> first | (simp only [wPF, va_up_ne _ _ hb]; done) | (simp only [wPF, va_up, if_neg hb]; done) | simp [wPF, va_re, va_up, va_rf, hb, h]
theorem wPu_O_BirthStreet_f_possible (cyB : ClassId) (cyI : ClassId) (X : va_W) (S : wPS) {A : Nat → Prop} {a k : Nat} (hD : va_D A (X ++ va_pl S.L (wPF cyB cyI S))) (hL : a ∈ S.L) (h : S.K a = 2) (hk : (X ++ va_pl S.L (wPF cyB cyI S))[k]? = some (a, wPF cyB cyI S a)) (v : Option Nat) : (X ++ va_pl S.L (wPF cyB cyI S)).set k (a, .inr (2, [va_rf (S.O_BirthStreet.f_page a), .int (S.O_BirthStreet.f_letters a), .int (S.O_BirthStreet.f_houses a), .int (S.O_BirthStreet.f_streetsRead a), va_rf (S.O_BirthStreet.f_kinds a), va_rf (S.O_BirthStreet.f_now a), va_rf (S.O_BirthStreet.f_kept a), .int (S.O_BirthStreet.f_isKept a), va_rf (S.O_BirthStreet.f_wouldBe a), va_rf v, va_rf (S.O_BirthStreet.f_tally a)])) = X ++ va_pl S.L (wPF cyB cyI { S with O_BirthStreet := { S.O_BirthStreet with f_possible := va_up S.O_BirthStreet.f_possible a v } }) := by
  rw [va_pl_set hD hL hk]
  exact congrArg (fun l => X ++ l) (va_pl_congr (wSt_O_BirthStreet_f_possible cyB cyI S h v))
theorem wSt_O_BirthStreet_f_tally (cyB : ClassId) (cyI : ClassId) (S : wPS) {a : Nat} (h : S.K a = 2) (v : Option Nat) (b : Nat) : va_up (wPF cyB cyI S) a (.inr (2, [va_rf (S.O_BirthStreet.f_page a), .int (S.O_BirthStreet.f_letters a), .int (S.O_BirthStreet.f_houses a), .int (S.O_BirthStreet.f_streetsRead a), va_rf (S.O_BirthStreet.f_kinds a), va_rf (S.O_BirthStreet.f_now a), va_rf (S.O_BirthStreet.f_kept a), .int (S.O_BirthStreet.f_isKept a), va_rf (S.O_BirthStreet.f_wouldBe a), va_rf (S.O_BirthStreet.f_possible a), va_rf v])) b = wPF cyB cyI { S with O_BirthStreet := { S.O_BirthStreet with f_tally := va_up S.O_BirthStreet.f_tally a v } } b := by by_cases hb : b = a <;> first | (simp only [wPF, va_up_ne _ _ hb]; done) | (simp only [wPF, va_up, if_neg hb]; done) | simp [wPF, va_re, va_up, va_rf, hb, h]
theorem wPu_O_BirthStreet_f_tally (cyB : ClassId) (cyI : ClassId) (X : va_W) (S : wPS) {A : Nat → Prop} {a k : Nat} (hD : va_D A (X ++ va_pl S.L (wPF cyB cyI S))) (hL : a ∈ S.L) (h : S.K a = 2) (hk : (X ++ va_pl S.L (wPF cyB cyI S))[k]? = some (a, wPF cyB cyI S a)) (v : Option Nat) : (X ++ va_pl S.L (wPF cyB cyI S)).set k (a, .inr (2, [va_rf (S.O_BirthStreet.f_page a), .int (S.O_BirthStreet.f_letters a), .int (S.O_BirthStreet.f_houses a), .int (S.O_BirthStreet.f_streetsRead a), va_rf (S.O_BirthStreet.f_kinds a), va_rf (S.O_BirthStreet.f_now a), va_rf (S.O_BirthStreet.f_kept a), .int (S.O_BirthStreet.f_isKept a), va_rf (S.O_BirthStreet.f_wouldBe a), va_rf (S.O_BirthStreet.f_possible a), va_rf v])) = X ++ va_pl S.L (wPF cyB cyI { S with O_BirthStreet := { S.O_BirthStreet with f_tally := va_up S.O_BirthStreet.f_tally a v } }) := by
  rw [va_pl_set hD hL hk]
  exact congrArg (fun l => X ++ l) (va_pl_congr (wSt_O_BirthStreet_f_tally cyB cyI S h v))
theorem wNw_O_BirthStreet (cyB : ClassId) (cyI : ClassId) (S : wPS) (a b : Nat) : va_up (wPF cyB cyI S) a (.inr (2, [.null, .int 0, .int 0, .int 0, .null, .null, .null, .int 0, .null, .null, .null])) b = wPF cyB cyI { S with L := S.L ++ [a], K := va_up S.K a 2, O_BirthStreet := { f_page := va_up S.O_BirthStreet.f_page a none, f_letters := va_up S.O_BirthStreet.f_letters a 0, f_houses := va_up S.O_BirthStreet.f_houses a 0, f_streetsRead := va_up S.O_BirthStreet.f_streetsRead a 0, f_kinds := va_up S.O_BirthStreet.f_kinds a none, f_now := va_up S.O_BirthStreet.f_now a none, f_kept := va_up S.O_BirthStreet.f_kept a none, f_isKept := va_up S.O_BirthStreet.f_isKept a 0, f_wouldBe := va_up S.O_BirthStreet.f_wouldBe a none, f_possible := va_up S.O_BirthStreet.f_possible a none, f_tally := va_up S.O_BirthStreet.f_tally a none } } b := by by_cases hb : b = a <;> first | (simp only [wPF, va_up_ne _ _ hb]; done) | (simp only [wPF, va_up, if_neg hb]; done) | simp [wPF, va_re, va_up, va_rf, hb]
theorem wPn_O_BirthStreet (cyB : ClassId) (cyI : ClassId) (X : va_W) (S : wPS) {a : Nat} (ha : a ∉ S.L) : (X ++ va_pl S.L (wPF cyB cyI S)) ++ [(a, .inr (2, [.null, .int 0, .int 0, .int 0, .null, .null, .null, .int 0, .null, .null, .null]))] = X ++ va_pl (S.L ++ [a]) (wPF cyB cyI { S with L := S.L ++ [a], K := va_up S.K a 2, O_BirthStreet := { f_page := va_up S.O_BirthStreet.f_page a none, f_letters := va_up S.O_BirthStreet.f_letters a 0, f_houses := va_up S.O_BirthStreet.f_houses a 0, f_streetsRead := va_up S.O_BirthStreet.f_streetsRead a 0, f_kinds := va_up S.O_BirthStreet.f_kinds a none, f_now := va_up S.O_BirthStreet.f_now a none, f_kept := va_up S.O_BirthStreet.f_kept a none, f_isKept := va_up S.O_BirthStreet.f_isKept a 0, f_wouldBe := va_up S.O_BirthStreet.f_wouldBe a none, f_possible := va_up S.O_BirthStreet.f_possible a none, f_tally := va_up S.O_BirthStreet.f_tally a none } }) := by
  rw [List.append_assoc, va_pl_push ha]
  exact congrArg (fun l => X ++ l) (va_pl_congr (wNw_O_BirthStreet cyB cyI S a))
theorem wAt_O_BirthStreetModel (cyB : ClassId) (cyI : ClassId) (S : wPS) {a : Nat} (h : S.K a = 3) : wPF cyB cyI S a = .inr (3, [.int (S.O_BirthStreetModel.f_streets a), .int (S.O_BirthStreetModel.f_houses a), va_rf (S.O_BirthStreetModel.f_kindOf a), va_rf (S.O_BirthStreetModel.f_ageOf a), va_rf (S.O_BirthStreetModel.f_birthsOf a), va_rf (S.O_BirthStreetModel.f_ageThen a), .int (S.O_BirthStreetModel.f_today a), .int (S.O_BirthStreetModel.f_births a), .int (S.O_BirthStreetModel.f_debts a), va_rf (S.O_BirthStreetModel.f_debtMuch a), va_rf (S.O_BirthStreetModel.f_debtNumber a), .int (S.O_BirthStreetModel.f_heard a), va_rf (S.O_BirthStreetModel.f_heardHouse a), va_rf (S.O_BirthStreetModel.f_heardNumber a), .int (S.O_BirthStreetModel.f_pageLength a), va_rf (S.O_BirthStreetModel.f_page a), va_rf (S.O_BirthStreetModel.f_savedAge a), .long (S.O_BirthStreetModel.f_seedNow a), .int (S.O_BirthStreetModel.f_isKept a), .int (S.O_BirthStreetModel.f_keptStreet a), .int (S.O_BirthStreetModel.f_keptToday a), .int (S.O_BirthStreetModel.f_keptBirths a), .int (S.O_BirthStreetModel.f_keptDebts a), .int (S.O_BirthStreetModel.f_keptHeard a), va_rf (S.O_BirthStreetModel.f_keptAge a), va_rf (S.O_BirthStreetModel.f_keptBirthsOf a), va_rf (S.O_BirthStreetModel.f_keptThen a), va_rf (S.O_BirthStreetModel.f_keptMuch a), va_rf (S.O_BirthStreetModel.f_keptNumber a), va_rf (S.O_BirthStreetModel.f_keptHouse a), va_rf (S.O_BirthStreetModel.f_keptHeardNumber a), .long (S.O_BirthStreetModel.f_h a)]) := by simp [wPF, h]
theorem wGt_O_BirthStreetModel (cyB : ClassId) (cyI : ClassId) (X : va_W) (S : wPS) {a : Nat} (hL : a ∈ S.L) (h : S.K a = 3) : ∃ k : Nat, (X ++ va_pl S.L (wPF cyB cyI S))[k]? = some (a, wPF cyB cyI S a) ∧ (X ++ va_pl S.L (wPF cyB cyI S))[k]? = some (a, .inr (3, [.int (S.O_BirthStreetModel.f_streets a), .int (S.O_BirthStreetModel.f_houses a), va_rf (S.O_BirthStreetModel.f_kindOf a), va_rf (S.O_BirthStreetModel.f_ageOf a), va_rf (S.O_BirthStreetModel.f_birthsOf a), va_rf (S.O_BirthStreetModel.f_ageThen a), .int (S.O_BirthStreetModel.f_today a), .int (S.O_BirthStreetModel.f_births a), .int (S.O_BirthStreetModel.f_debts a), va_rf (S.O_BirthStreetModel.f_debtMuch a), va_rf (S.O_BirthStreetModel.f_debtNumber a), .int (S.O_BirthStreetModel.f_heard a), va_rf (S.O_BirthStreetModel.f_heardHouse a), va_rf (S.O_BirthStreetModel.f_heardNumber a), .int (S.O_BirthStreetModel.f_pageLength a), va_rf (S.O_BirthStreetModel.f_page a), va_rf (S.O_BirthStreetModel.f_savedAge a), .long (S.O_BirthStreetModel.f_seedNow a), .int (S.O_BirthStreetModel.f_isKept a), .int (S.O_BirthStreetModel.f_keptStreet a), .int (S.O_BirthStreetModel.f_keptToday a), .int (S.O_BirthStreetModel.f_keptBirths a), .int (S.O_BirthStreetModel.f_keptDebts a), .int (S.O_BirthStreetModel.f_keptHeard a), va_rf (S.O_BirthStreetModel.f_keptAge a), va_rf (S.O_BirthStreetModel.f_keptBirthsOf a), va_rf (S.O_BirthStreetModel.f_keptThen a), va_rf (S.O_BirthStreetModel.f_keptMuch a), va_rf (S.O_BirthStreetModel.f_keptNumber a), va_rf (S.O_BirthStreetModel.f_keptHouse a), va_rf (S.O_BirthStreetModel.f_keptHeardNumber a), .long (S.O_BirthStreetModel.f_h a)])) := by
  obtain ⟨k, hk⟩ := va_pl_get (X := X) (f := wPF cyB cyI S) hL
  exact ⟨k, hk, hk.trans (congrArg (fun e => some (a, e)) (wAt_O_BirthStreetModel cyB cyI S h))⟩
theorem wSt_O_BirthStreetModel_f_streets (cyB : ClassId) (cyI : ClassId) (S : wPS) {a : Nat} (h : S.K a = 3) (v : Int32) (b : Nat) : va_up (wPF cyB cyI S) a (.inr (3, [.int v, .int (S.O_BirthStreetModel.f_houses a), va_rf (S.O_BirthStreetModel.f_kindOf a), va_rf (S.O_BirthStreetModel.f_ageOf a), va_rf (S.O_BirthStreetModel.f_birthsOf a), va_rf (S.O_BirthStreetModel.f_ageThen a), .int (S.O_BirthStreetModel.f_today a), .int (S.O_BirthStreetModel.f_births a), .int (S.O_BirthStreetModel.f_debts a), va_rf (S.O_BirthStreetModel.f_debtMuch a), va_rf (S.O_BirthStreetModel.f_debtNumber a), .int (S.O_BirthStreetModel.f_heard a), va_rf (S.O_BirthStreetModel.f_heardHouse a), va_rf (S.O_BirthStreetModel.f_heardNumber a), .int (S.O_BirthStreetModel.f_pageLength a), va_rf (S.O_BirthStreetModel.f_page a), va_rf (S.O_BirthStreetModel.f_savedAge a), .long (S.O_BirthStreetModel.f_seedNow a), .int (S.O_BirthStreetModel.f_isKept a), .int (S.O_BirthStreetModel.f_keptStreet a), .int (S.O_BirthStreetModel.f_keptToday a), .int (S.O_BirthStreetModel.f_keptBirths a), .int (S.O_BirthStreetModel.f_keptDebts a), .int (S.O_BirthStreetModel.f_keptHeard a), va_rf (S.O_BirthStreetModel.f_keptAge a), va_rf (S.O_BirthStreetModel.f_keptBirthsOf a), va_rf (S.O_BirthStreetModel.f_keptThen a), va_rf (S.O_BirthStreetModel.f_keptMuch a), va_rf (S.O_BirthStreetModel.f_keptNumber a), va_rf (S.O_BirthStreetModel.f_keptHouse a), va_rf (S.O_BirthStreetModel.f_keptHeardNumber a), .long (S.O_BirthStreetModel.f_h a)])) b = wPF cyB cyI { S with O_BirthStreetModel := { S.O_BirthStreetModel with f_streets := va_up S.O_BirthStreetModel.f_streets a v } } b := by by_cases hb : b = a <;> first | (simp only [wPF, va_up_ne _ _ hb]; done) | (simp only [wPF, va_up, if_neg hb]; done) | simp [wPF, va_re, va_up, va_rf, hb, h]
theorem wPu_O_BirthStreetModel_f_streets (cyB : ClassId) (cyI : ClassId) (X : va_W) (S : wPS) {A : Nat → Prop} {a k : Nat} (hD : va_D A (X ++ va_pl S.L (wPF cyB cyI S))) (hL : a ∈ S.L) (h : S.K a = 3) (hk : (X ++ va_pl S.L (wPF cyB cyI S))[k]? = some (a, wPF cyB cyI S a)) (v : Int32) : (X ++ va_pl S.L (wPF cyB cyI S)).set k (a, .inr (3, [.int v, .int (S.O_BirthStreetModel.f_houses a), va_rf (S.O_BirthStreetModel.f_kindOf a), va_rf (S.O_BirthStreetModel.f_ageOf a), va_rf (S.O_BirthStreetModel.f_birthsOf a), va_rf (S.O_BirthStreetModel.f_ageThen a), .int (S.O_BirthStreetModel.f_today a), .int (S.O_BirthStreetModel.f_births a), .int (S.O_BirthStreetModel.f_debts a), va_rf (S.O_BirthStreetModel.f_debtMuch a), va_rf (S.O_BirthStreetModel.f_debtNumber a), .int (S.O_BirthStreetModel.f_heard a), va_rf (S.O_BirthStreetModel.f_heardHouse a), va_rf (S.O_BirthStreetModel.f_heardNumber a), .int (S.O_BirthStreetModel.f_pageLength a), va_rf (S.O_BirthStreetModel.f_page a), va_rf (S.O_BirthStreetModel.f_savedAge a), .long (S.O_BirthStreetModel.f_seedNow a), .int (S.O_BirthStreetModel.f_isKept a), .int (S.O_BirthStreetModel.f_keptStreet a), .int (S.O_BirthStreetModel.f_keptToday a), .int (S.O_BirthStreetModel.f_keptBirths a), .int (S.O_BirthStreetModel.f_keptDebts a), .int (S.O_BirthStreetModel.f_keptHeard a), va_rf (S.O_BirthStreetModel.f_keptAge a), va_rf (S.O_BirthStreetModel.f_keptBirthsOf a), va_rf (S.O_BirthStreetModel.f_keptThen a), va_rf (S.O_BirthStreetModel.f_keptMuch a), va_rf (S.O_BirthStreetModel.f_keptNumber a), va_rf (S.O_BirthStreetModel.f_keptHouse a), va_rf (S.O_BirthStreetModel.f_keptHeardNumber a), .long (S.O_BirthStreetModel.f_h a)])) = X ++ va_pl S.L (wPF cyB cyI { S with O_BirthStreetModel := { S.O_BirthStreetModel with f_streets := va_up S.O_BirthStreetModel.f_streets a v } }) := by
  rw [va_pl_set hD hL hk]
  exact congrArg (fun l => X ++ l) (va_pl_congr (wSt_O_BirthStreetModel_f_streets cyB cyI S h v))
theorem wSt_O_BirthStreetModel_f_houses (cyB : ClassId) (cyI : ClassId) (S : wPS) {a : Nat} (h : S.K a = 3) (v : Int32) (b : Nat) : va_up (wPF cyB cyI S) a (.inr (3, [.int (S.O_BirthStreetModel.f_streets a), .int v, va_rf (S.O_BirthStreetModel.f_kindOf a), va_rf (S.O_BirthStreetModel.f_ageOf a), va_rf (S.O_BirthStreetModel.f_birthsOf a), va_rf (S.O_BirthStreetModel.f_ageThen a), .int (S.O_BirthStreetModel.f_today a), .int (S.O_BirthStreetModel.f_births a), .int (S.O_BirthStreetModel.f_debts a), va_rf (S.O_BirthStreetModel.f_debtMuch a), va_rf (S.O_BirthStreetModel.f_debtNumber a), .int (S.O_BirthStreetModel.f_heard a), va_rf (S.O_BirthStreetModel.f_heardHouse a), va_rf (S.O_BirthStreetModel.f_heardNumber a), .int (S.O_BirthStreetModel.f_pageLength a), va_rf (S.O_BirthStreetModel.f_page a), va_rf (S.O_BirthStreetModel.f_savedAge a), .long (S.O_BirthStreetModel.f_seedNow a), .int (S.O_BirthStreetModel.f_isKept a), .int (S.O_BirthStreetModel.f_keptStreet a), .int (S.O_BirthStreetModel.f_keptToday a), .int (S.O_BirthStreetModel.f_keptBirths a), .int (S.O_BirthStreetModel.f_keptDebts a), .int (S.O_BirthStreetModel.f_keptHeard a), va_rf (S.O_BirthStreetModel.f_keptAge a), va_rf (S.O_BirthStreetModel.f_keptBirthsOf a), va_rf (S.O_BirthStreetModel.f_keptThen a), va_rf (S.O_BirthStreetModel.f_keptMuch a), va_rf (S.O_BirthStreetModel.f_keptNumber a), va_rf (S.O_BirthStreetModel.f_keptHouse a), va_rf (S.O_BirthStreetModel.f_keptHeardNumber a), .long (S.O_BirthStreetModel.f_h a)])) b = wPF cyB cyI { S with O_BirthStreetModel := { S.O_BirthStreetModel with f_houses := va_up S.O_BirthStreetModel.f_houses a v } } b := by by_cases hb : b = a <;> first | (simp only [wPF, va_up_ne _ _ hb]; done) | (simp only [wPF, va_up, if_neg hb]; done) | simp [wPF, va_re, va_up, va_rf, hb, h]
theorem wPu_O_BirthStreetModel_f_houses (cyB : ClassId) (cyI : ClassId) (X : va_W) (S : wPS) {A : Nat → Prop} {a k : Nat} (hD : va_D A (X ++ va_pl S.L (wPF cyB cyI S))) (hL : a ∈ S.L) (h : S.K a = 3) (hk : (X ++ va_pl S.L (wPF cyB cyI S))[k]? = some (a, wPF cyB cyI S a)) (v : Int32) : (X ++ va_pl S.L (wPF cyB cyI S)).set k (a, .inr (3, [.int (S.O_BirthStreetModel.f_streets a), .int v, va_rf (S.O_BirthStreetModel.f_kindOf a), va_rf (S.O_BirthStreetModel.f_ageOf a), va_rf (S.O_BirthStreetModel.f_birthsOf a), va_rf (S.O_BirthStreetModel.f_ageThen a), .int (S.O_BirthStreetModel.f_today a), .int (S.O_BirthStreetModel.f_births a), .int (S.O_BirthStreetModel.f_debts a), va_rf (S.O_BirthStreetModel.f_debtMuch a), va_rf (S.O_BirthStreetModel.f_debtNumber a), .int (S.O_BirthStreetModel.f_heard a), va_rf (S.O_BirthStreetModel.f_heardHouse a), va_rf (S.O_BirthStreetModel.f_heardNumber a), .int (S.O_BirthStreetModel.f_pageLength a), va_rf (S.O_BirthStreetModel.f_page a), va_rf (S.O_BirthStreetModel.f_savedAge a), .long (S.O_BirthStreetModel.f_seedNow a), .int (S.O_BirthStreetModel.f_isKept a), .int (S.O_BirthStreetModel.f_keptStreet a), .int (S.O_BirthStreetModel.f_keptToday a), .int (S.O_BirthStreetModel.f_keptBirths a), .int (S.O_BirthStreetModel.f_keptDebts a), .int (S.O_BirthStreetModel.f_keptHeard a), va_rf (S.O_BirthStreetModel.f_keptAge a), va_rf (S.O_BirthStreetModel.f_keptBirthsOf a), va_rf (S.O_BirthStreetModel.f_keptThen a), va_rf (S.O_BirthStreetModel.f_keptMuch a), va_rf (S.O_BirthStreetModel.f_keptNumber a), va_rf (S.O_BirthStreetModel.f_keptHouse a), va_rf (S.O_BirthStreetModel.f_keptHeardNumber a), .long (S.O_BirthStreetModel.f_h a)])) = X ++ va_pl S.L (wPF cyB cyI { S with O_BirthStreetModel := { S.O_BirthStreetModel with f_houses := va_up S.O_BirthStreetModel.f_houses a v } }) := by
  rw [va_pl_set hD hL hk]
  exact congrArg (fun l => X ++ l) (va_pl_congr (wSt_O_BirthStreetModel_f_houses cyB cyI S h v))
theorem wSt_O_BirthStreetModel_f_kindOf (cyB : ClassId) (cyI : ClassId) (S : wPS) {a : Nat} (h : S.K a = 3) (v : Option Nat) (b : Nat) : va_up (wPF cyB cyI S) a (.inr (3, [.int (S.O_BirthStreetModel.f_streets a), .int (S.O_BirthStreetModel.f_houses a), va_rf v, va_rf (S.O_BirthStreetModel.f_ageOf a), va_rf (S.O_BirthStreetModel.f_birthsOf a), va_rf (S.O_BirthStreetModel.f_ageThen a), .int (S.O_BirthStreetModel.f_today a), .int (S.O_BirthStreetModel.f_births a), .int (S.O_BirthStreetModel.f_debts a), va_rf (S.O_BirthStreetModel.f_debtMuch a), va_rf (S.O_BirthStreetModel.f_debtNumber a), .int (S.O_BirthStreetModel.f_heard a), va_rf (S.O_BirthStreetModel.f_heardHouse a), va_rf (S.O_BirthStreetModel.f_heardNumber a), .int (S.O_BirthStreetModel.f_pageLength a), va_rf (S.O_BirthStreetModel.f_page a), va_rf (S.O_BirthStreetModel.f_savedAge a), .long (S.O_BirthStreetModel.f_seedNow a), .int (S.O_BirthStreetModel.f_isKept a), .int (S.O_BirthStreetModel.f_keptStreet a), .int (S.O_BirthStreetModel.f_keptToday a), .int (S.O_BirthStreetModel.f_keptBirths a), .int (S.O_BirthStreetModel.f_keptDebts a), .int (S.O_BirthStreetModel.f_keptHeard a), va_rf (S.O_BirthStreetModel.f_keptAge a), va_rf (S.O_BirthStreetModel.f_keptBirthsOf a), va_rf (S.O_BirthStreetModel.f_keptThen a), va_rf (S.O_BirthStreetModel.f_keptMuch a), va_rf (S.O_BirthStreetModel.f_keptNumber a), va_rf (S.O_BirthStreetModel.f_keptHouse a), va_rf (S.O_BirthStreetModel.f_keptHeardNumber a), .long (S.O_BirthStreetModel.f_h a)])) b = wPF cyB cyI { S with O_BirthStreetModel := { S.O_BirthStreetModel with f_kindOf := va_up S.O_BirthStreetModel.f_kindOf a v } } b := by by_cases hb : b = a <;> first | (simp only [wPF, va_up_ne _ _ hb]; done) | (simp only [wPF, va_up, if_neg hb]; done) | simp [wPF, va_re, va_up, va_rf, hb, h]
theorem wPu_O_BirthStreetModel_f_kindOf (cyB : ClassId) (cyI : ClassId) (X : va_W) (S : wPS) {A : Nat → Prop} {a k : Nat} (hD : va_D A (X ++ va_pl S.L (wPF cyB cyI S))) (hL : a ∈ S.L) (h : S.K a = 3) (hk : (X ++ va_pl S.L (wPF cyB cyI S))[k]? = some (a, wPF cyB cyI S a)) (v : Option Nat) : (X ++ va_pl S.L (wPF cyB cyI S)).set k (a, .inr (3, [.int (S.O_BirthStreetModel.f_streets a), .int (S.O_BirthStreetModel.f_houses a), va_rf v, va_rf (S.O_BirthStreetModel.f_ageOf a), va_rf (S.O_BirthStreetModel.f_birthsOf a), va_rf (S.O_BirthStreetModel.f_ageThen a), .int (S.O_BirthStreetModel.f_today a), .int (S.O_BirthStreetModel.f_births a), .int (S.O_BirthStreetModel.f_debts a), va_rf (S.O_BirthStreetModel.f_debtMuch a), va_rf (S.O_BirthStreetModel.f_debtNumber a), .int (S.O_BirthStreetModel.f_heard a), va_rf (S.O_BirthStreetModel.f_heardHouse a), va_rf (S.O_BirthStreetModel.f_heardNumber a), .int (S.O_BirthStreetModel.f_pageLength a), va_rf (S.O_BirthStreetModel.f_page a), va_rf (S.O_BirthStreetModel.f_savedAge a), .long (S.O_BirthStreetModel.f_seedNow a), .int (S.O_BirthStreetModel.f_isKept a), .int (S.O_BirthStreetModel.f_keptStreet a), .int (S.O_BirthStreetModel.f_keptToday a), .int (S.O_BirthStreetModel.f_keptBirths a), .int (S.O_BirthStreetModel.f_keptDebts a), .int (S.O_BirthStreetModel.f_keptHeard a), va_rf (S.O_BirthStreetModel.f_keptAge a), va_rf (S.O_BirthStreetModel.f_keptBirthsOf a), va_rf (S.O_BirthStreetModel.f_keptThen a), va_rf (S.O_BirthStreetModel.f_keptMuch a), va_rf (S.O_BirthStreetModel.f_keptNumber a), va_rf (S.O_BirthStreetModel.f_keptHouse a), va_rf (S.O_BirthStreetModel.f_keptHeardNumber a), .long (S.O_BirthStreetModel.f_h a)])) = X ++ va_pl S.L (wPF cyB cyI { S with O_BirthStreetModel := { S.O_BirthStreetModel with f_kindOf := va_up S.O_BirthStreetModel.f_kindOf a v } }) := by
  rw [va_pl_set hD hL hk]
  exact congrArg (fun l => X ++ l) (va_pl_congr (wSt_O_BirthStreetModel_f_kindOf cyB cyI S h v))
theorem wSt_O_BirthStreetModel_f_ageOf (cyB : ClassId) (cyI : ClassId) (S : wPS) {a : Nat} (h : S.K a = 3) (v : Option Nat) (b : Nat) : va_up (wPF cyB cyI S) a (.inr (3, [.int (S.O_BirthStreetModel.f_streets a), .int (S.O_BirthStreetModel.f_houses a), va_rf (S.O_BirthStreetModel.f_kindOf a), va_rf v, va_rf (S.O_BirthStreetModel.f_birthsOf a), va_rf (S.O_BirthStreetModel.f_ageThen a), .int (S.O_BirthStreetModel.f_today a), .int (S.O_BirthStreetModel.f_births a), .int (S.O_BirthStreetModel.f_debts a), va_rf (S.O_BirthStreetModel.f_debtMuch a), va_rf (S.O_BirthStreetModel.f_debtNumber a), .int (S.O_BirthStreetModel.f_heard a), va_rf (S.O_BirthStreetModel.f_heardHouse a), va_rf (S.O_BirthStreetModel.f_heardNumber a), .int (S.O_BirthStreetModel.f_pageLength a), va_rf (S.O_BirthStreetModel.f_page a), va_rf (S.O_BirthStreetModel.f_savedAge a), .long (S.O_BirthStreetModel.f_seedNow a), .int (S.O_BirthStreetModel.f_isKept a), .int (S.O_BirthStreetModel.f_keptStreet a), .int (S.O_BirthStreetModel.f_keptToday a), .int (S.O_BirthStreetModel.f_keptBirths a), .int (S.O_BirthStreetModel.f_keptDebts a), .int (S.O_BirthStreetModel.f_keptHeard a), va_rf (S.O_BirthStreetModel.f_keptAge a), va_rf (S.O_BirthStreetModel.f_keptBirthsOf a), va_rf (S.O_BirthStreetModel.f_keptThen a), va_rf (S.O_BirthStreetModel.f_keptMuch a), va_rf (S.O_BirthStreetModel.f_keptNumber a), va_rf (S.O_BirthStreetModel.f_keptHouse a), va_rf (S.O_BirthStreetModel.f_keptHeardNumber a), .long (S.O_BirthStreetModel.f_h a)])) b = wPF cyB cyI { S with O_BirthStreetModel := { S.O_BirthStreetModel with f_ageOf := va_up S.O_BirthStreetModel.f_ageOf a v } } b := by by_cases hb : b = a <;> first | (simp only [wPF, va_up_ne _ _ hb]; done) | (simp only [wPF, va_up, if_neg hb]; done) | simp [wPF, va_re, va_up, va_rf, hb, h]
theorem wPu_O_BirthStreetModel_f_ageOf (cyB : ClassId) (cyI : ClassId) (X : va_W) (S : wPS) {A : Nat → Prop} {a k : Nat} (hD : va_D A (X ++ va_pl S.L (wPF cyB cyI S))) (hL : a ∈ S.L) (h : S.K a = 3) (hk : (X ++ va_pl S.L (wPF cyB cyI S))[k]? = some (a, wPF cyB cyI S a)) (v : Option Nat) : (X ++ va_pl S.L (wPF cyB cyI S)).set k (a, .inr (3, [.int (S.O_BirthStreetModel.f_streets a), .int (S.O_BirthStreetModel.f_houses a), va_rf (S.O_BirthStreetModel.f_kindOf a), va_rf v, va_rf (S.O_BirthStreetModel.f_birthsOf a), va_rf (S.O_BirthStreetModel.f_ageThen a), .int (S.O_BirthStreetModel.f_today a), .int (S.O_BirthStreetModel.f_births a), .int (S.O_BirthStreetModel.f_debts a), va_rf (S.O_BirthStreetModel.f_debtMuch a), va_rf (S.O_BirthStreetModel.f_debtNumber a), .int (S.O_BirthStreetModel.f_heard a), va_rf (S.O_BirthStreetModel.f_heardHouse a), va_rf (S.O_BirthStreetModel.f_heardNumber a), .int (S.O_BirthStreetModel.f_pageLength a), va_rf (S.O_BirthStreetModel.f_page a), va_rf (S.O_BirthStreetModel.f_savedAge a), .long (S.O_BirthStreetModel.f_seedNow a), .int (S.O_BirthStreetModel.f_isKept a), .int (S.O_BirthStreetModel.f_keptStreet a), .int (S.O_BirthStreetModel.f_keptToday a), .int (S.O_BirthStreetModel.f_keptBirths a), .int (S.O_BirthStreetModel.f_keptDebts a), .int (S.O_BirthStreetModel.f_keptHeard a), va_rf (S.O_BirthStreetModel.f_keptAge a), va_rf (S.O_BirthStreetModel.f_keptBirthsOf a), va_rf (S.O_BirthStreetModel.f_keptThen a), va_rf (S.O_BirthStreetModel.f_keptMuch a), va_rf (S.O_BirthStreetModel.f_keptNumber a), va_rf (S.O_BirthStreetModel.f_keptHouse a), va_rf (S.O_BirthStreetModel.f_keptHeardNumber a), .long (S.O_BirthStreetModel.f_h a)])) = X ++ va_pl S.L (wPF cyB cyI { S with O_BirthStreetModel := { S.O_BirthStreetModel with f_ageOf := va_up S.O_BirthStreetModel.f_ageOf a v } }) := by
  rw [va_pl_set hD hL hk]
  exact congrArg (fun l => X ++ l) (va_pl_congr (wSt_O_BirthStreetModel_f_ageOf cyB cyI S h v))
theorem wSt_O_BirthStreetModel_f_birthsOf (cyB : ClassId) (cyI : ClassId) (S : wPS) {a : Nat} (h : S.K a = 3) (v : Option Nat) (b : Nat) : va_up (wPF cyB cyI S) a (.inr (3, [.int (S.O_BirthStreetModel.f_streets a), .int (S.O_BirthStreetModel.f_houses a), va_rf (S.O_BirthStreetModel.f_kindOf a), va_rf (S.O_BirthStreetModel.f_ageOf a), va_rf v, va_rf (S.O_BirthStreetModel.f_ageThen a), .int (S.O_BirthStreetModel.f_today a), .int (S.O_BirthStreetModel.f_births a), .int (S.O_BirthStreetModel.f_debts a), va_rf (S.O_BirthStreetModel.f_debtMuch a), va_rf (S.O_BirthStreetModel.f_debtNumber a), .int (S.O_BirthStreetModel.f_heard a), va_rf (S.O_BirthStreetModel.f_heardHouse a), va_rf (S.O_BirthStreetModel.f_heardNumber a), .int (S.O_BirthStreetModel.f_pageLength a), va_rf (S.O_BirthStreetModel.f_page a), va_rf (S.O_BirthStreetModel.f_savedAge a), .long (S.O_BirthStreetModel.f_seedNow a), .int (S.O_BirthStreetModel.f_isKept a), .int (S.O_BirthStreetModel.f_keptStreet a), .int (S.O_BirthStreetModel.f_keptToday a), .int (S.O_BirthStreetModel.f_keptBirths a), .int (S.O_BirthStreetModel.f_keptDebts a), .int (S.O_BirthStreetModel.f_keptHeard a), va_rf (S.O_BirthStreetModel.f_keptAge a), va_rf (S.O_BirthStreetModel.f_keptBirthsOf a), va_rf (S.O_BirthStreetModel.f_keptThen a), va_rf (S.O_BirthStreetModel.f_keptMuch a), va_rf (S.O_BirthStreetModel.f_keptNumber a), va_rf (S.O_BirthStreetModel.f_keptHouse a), va_rf (S.O_BirthStreetModel.f_keptHeardNumber a), .long (S.O_BirthStreetModel.f_h a)])) b = wPF cyB cyI { S with O_BirthStreetModel := { S.O_BirthStreetModel with f_birthsOf := va_up S.O_BirthStreetModel.f_birthsOf a v } } b := by by_cases hb : b = a <;> first | (simp only [wPF, va_up_ne _ _ hb]; done) | (simp only [wPF, va_up, if_neg hb]; done) | simp [wPF, va_re, va_up, va_rf, hb, h]
theorem wPu_O_BirthStreetModel_f_birthsOf (cyB : ClassId) (cyI : ClassId) (X : va_W) (S : wPS) {A : Nat → Prop} {a k : Nat} (hD : va_D A (X ++ va_pl S.L (wPF cyB cyI S))) (hL : a ∈ S.L) (h : S.K a = 3) (hk : (X ++ va_pl S.L (wPF cyB cyI S))[k]? = some (a, wPF cyB cyI S a)) (v : Option Nat) : (X ++ va_pl S.L (wPF cyB cyI S)).set k (a, .inr (3, [.int (S.O_BirthStreetModel.f_streets a), .int (S.O_BirthStreetModel.f_houses a), va_rf (S.O_BirthStreetModel.f_kindOf a), va_rf (S.O_BirthStreetModel.f_ageOf a), va_rf v, va_rf (S.O_BirthStreetModel.f_ageThen a), .int (S.O_BirthStreetModel.f_today a), .int (S.O_BirthStreetModel.f_births a), .int (S.O_BirthStreetModel.f_debts a), va_rf (S.O_BirthStreetModel.f_debtMuch a), va_rf (S.O_BirthStreetModel.f_debtNumber a), .int (S.O_BirthStreetModel.f_heard a), va_rf (S.O_BirthStreetModel.f_heardHouse a), va_rf (S.O_BirthStreetModel.f_heardNumber a), .int (S.O_BirthStreetModel.f_pageLength a), va_rf (S.O_BirthStreetModel.f_page a), va_rf (S.O_BirthStreetModel.f_savedAge a), .long (S.O_BirthStreetModel.f_seedNow a), .int (S.O_BirthStreetModel.f_isKept a), .int (S.O_BirthStreetModel.f_keptStreet a), .int (S.O_BirthStreetModel.f_keptToday a), .int (S.O_BirthStreetModel.f_keptBirths a), .int (S.O_BirthStreetModel.f_keptDebts a), .int (S.O_BirthStreetModel.f_keptHeard a), va_rf (S.O_BirthStreetModel.f_keptAge a), va_rf (S.O_BirthStreetModel.f_keptBirthsOf a), va_rf (S.O_BirthStreetModel.f_keptThen a), va_rf (S.O_BirthStreetModel.f_keptMuch a), va_rf (S.O_BirthStreetModel.f_keptNumber a), va_rf (S.O_BirthStreetModel.f_keptHouse a), va_rf (S.O_BirthStreetModel.f_keptHeardNumber a), .long (S.O_BirthStreetModel.f_h a)])) = X ++ va_pl S.L (wPF cyB cyI { S with O_BirthStreetModel := { S.O_BirthStreetModel with f_birthsOf := va_up S.O_BirthStreetModel.f_birthsOf a v } }) := by
  rw [va_pl_set hD hL hk]
  exact congrArg (fun l => X ++ l) (va_pl_congr (wSt_O_BirthStreetModel_f_birthsOf cyB cyI S h v))
theorem wSt_O_BirthStreetModel_f_ageThen (cyB : ClassId) (cyI : ClassId) (S : wPS) {a : Nat} (h : S.K a = 3) (v : Option Nat) (b : Nat) : va_up (wPF cyB cyI S) a (.inr (3, [.int (S.O_BirthStreetModel.f_streets a), .int (S.O_BirthStreetModel.f_houses a), va_rf (S.O_BirthStreetModel.f_kindOf a), va_rf (S.O_BirthStreetModel.f_ageOf a), va_rf (S.O_BirthStreetModel.f_birthsOf a), va_rf v, .int (S.O_BirthStreetModel.f_today a), .int (S.O_BirthStreetModel.f_births a), .int (S.O_BirthStreetModel.f_debts a), va_rf (S.O_BirthStreetModel.f_debtMuch a), va_rf (S.O_BirthStreetModel.f_debtNumber a), .int (S.O_BirthStreetModel.f_heard a), va_rf (S.O_BirthStreetModel.f_heardHouse a), va_rf (S.O_BirthStreetModel.f_heardNumber a), .int (S.O_BirthStreetModel.f_pageLength a), va_rf (S.O_BirthStreetModel.f_page a), va_rf (S.O_BirthStreetModel.f_savedAge a), .long (S.O_BirthStreetModel.f_seedNow a), .int (S.O_BirthStreetModel.f_isKept a), .int (S.O_BirthStreetModel.f_keptStreet a), .int (S.O_BirthStreetModel.f_keptToday a), .int (S.O_BirthStreetModel.f_keptBirths a), .int (S.O_BirthStreetModel.f_keptDebts a), .int (S.O_BirthStreetModel.f_keptHeard a), va_rf (S.O_BirthStreetModel.f_keptAge a), va_rf (S.O_BirthStreetModel.f_keptBirthsOf a), va_rf (S.O_BirthStreetModel.f_keptThen a), va_rf (S.O_BirthStreetModel.f_keptMuch a), va_rf (S.O_BirthStreetModel.f_keptNumber a), va_rf (S.O_BirthStreetModel.f_keptHouse a), va_rf (S.O_BirthStreetModel.f_keptHeardNumber a), .long (S.O_BirthStreetModel.f_h a)])) b = wPF cyB cyI { S with O_BirthStreetModel := { S.O_BirthStreetModel with f_ageThen := va_up S.O_BirthStreetModel.f_ageThen a v } } b := by by_cases hb : b = a <;> first | (simp only [wPF, va_up_ne _ _ hb]; done) | (simp only [wPF, va_up, if_neg hb]; done) | simp [wPF, va_re, va_up, va_rf, hb, h]
theorem wPu_O_BirthStreetModel_f_ageThen (cyB : ClassId) (cyI : ClassId) (X : va_W) (S : wPS) {A : Nat → Prop} {a k : Nat} (hD : va_D A (X ++ va_pl S.L (wPF cyB cyI S))) (hL : a ∈ S.L) (h : S.K a = 3) (hk : (X ++ va_pl S.L (wPF cyB cyI S))[k]? = some (a, wPF cyB cyI S a)) (v : Option Nat) : (X ++ va_pl S.L (wPF cyB cyI S)).set k (a, .inr (3, [.int (S.O_BirthStreetModel.f_streets a), .int (S.O_BirthStreetModel.f_houses a), va_rf (S.O_BirthStreetModel.f_kindOf a), va_rf (S.O_BirthStreetModel.f_ageOf a), va_rf (S.O_BirthStreetModel.f_birthsOf a), va_rf v, .int (S.O_BirthStreetModel.f_today a), .int (S.O_BirthStreetModel.f_births a), .int (S.O_BirthStreetModel.f_debts a), va_rf (S.O_BirthStreetModel.f_debtMuch a), va_rf (S.O_BirthStreetModel.f_debtNumber a), .int (S.O_BirthStreetModel.f_heard a), va_rf (S.O_BirthStreetModel.f_heardHouse a), va_rf (S.O_BirthStreetModel.f_heardNumber a), .int (S.O_BirthStreetModel.f_pageLength a), va_rf (S.O_BirthStreetModel.f_page a), va_rf (S.O_BirthStreetModel.f_savedAge a), .long (S.O_BirthStreetModel.f_seedNow a), .int (S.O_BirthStreetModel.f_isKept a), .int (S.O_BirthStreetModel.f_keptStreet a), .int (S.O_BirthStreetModel.f_keptToday a), .int (S.O_BirthStreetModel.f_keptBirths a), .int (S.O_BirthStreetModel.f_keptDebts a), .int (S.O_BirthStreetModel.f_keptHeard a), va_rf (S.O_BirthStreetModel.f_keptAge a), va_rf (S.O_BirthStreetModel.f_keptBirthsOf a), va_rf (S.O_BirthStreetModel.f_keptThen a), va_rf (S.O_BirthStreetModel.f_keptMuch a), va_rf (S.O_BirthStreetModel.f_keptNumber a), va_rf (S.O_BirthStreetModel.f_keptHouse a), va_rf (S.O_BirthStreetModel.f_keptHeardNumber a), .long (S.O_BirthStreetModel.f_h a)])) = X ++ va_pl S.L (wPF cyB cyI { S with O_BirthStreetModel := { S.O_BirthStreetModel with f_ageThen := va_up S.O_BirthStreetModel.f_ageThen a v } }) := by
  rw [va_pl_set hD hL hk]
  exact congrArg (fun l => X ++ l) (va_pl_congr (wSt_O_BirthStreetModel_f_ageThen cyB cyI S h v))
theorem wSt_O_BirthStreetModel_f_today (cyB : ClassId) (cyI : ClassId) (S : wPS) {a : Nat} (h : S.K a = 3) (v : Int32) (b : Nat) : va_up (wPF cyB cyI S) a (.inr (3, [.int (S.O_BirthStreetModel.f_streets a), .int (S.O_BirthStreetModel.f_houses a), va_rf (S.O_BirthStreetModel.f_kindOf a), va_rf (S.O_BirthStreetModel.f_ageOf a), va_rf (S.O_BirthStreetModel.f_birthsOf a), va_rf (S.O_BirthStreetModel.f_ageThen a), .int v, .int (S.O_BirthStreetModel.f_births a), .int (S.O_BirthStreetModel.f_debts a), va_rf (S.O_BirthStreetModel.f_debtMuch a), va_rf (S.O_BirthStreetModel.f_debtNumber a), .int (S.O_BirthStreetModel.f_heard a), va_rf (S.O_BirthStreetModel.f_heardHouse a), va_rf (S.O_BirthStreetModel.f_heardNumber a), .int (S.O_BirthStreetModel.f_pageLength a), va_rf (S.O_BirthStreetModel.f_page a), va_rf (S.O_BirthStreetModel.f_savedAge a), .long (S.O_BirthStreetModel.f_seedNow a), .int (S.O_BirthStreetModel.f_isKept a), .int (S.O_BirthStreetModel.f_keptStreet a), .int (S.O_BirthStreetModel.f_keptToday a), .int (S.O_BirthStreetModel.f_keptBirths a), .int (S.O_BirthStreetModel.f_keptDebts a), .int (S.O_BirthStreetModel.f_keptHeard a), va_rf (S.O_BirthStreetModel.f_keptAge a), va_rf (S.O_BirthStreetModel.f_keptBirthsOf a), va_rf (S.O_BirthStreetModel.f_keptThen a), va_rf (S.O_BirthStreetModel.f_keptMuch a), va_rf (S.O_BirthStreetModel.f_keptNumber a), va_rf (S.O_BirthStreetModel.f_keptHouse a), va_rf (S.O_BirthStreetModel.f_keptHeardNumber a), .long (S.O_BirthStreetModel.f_h a)])) b = wPF cyB cyI { S with O_BirthStreetModel := { S.O_BirthStreetModel with f_today := va_up S.O_BirthStreetModel.f_today a v } } b := by by_cases hb : b = a <;> first | (simp only [wPF, va_up_ne _ _ hb]; done) | (simp only [wPF, va_up, if_neg hb]; done) | simp [wPF, va_re, va_up, va_rf, hb, h]
theorem wPu_O_BirthStreetModel_f_today (cyB : ClassId) (cyI : ClassId) (X : va_W) (S : wPS) {A : Nat → Prop} {a k : Nat} (hD : va_D A (X ++ va_pl S.L (wPF cyB cyI S))) (hL : a ∈ S.L) (h : S.K a = 3) (hk : (X ++ va_pl S.L (wPF cyB cyI S))[k]? = some (a, wPF cyB cyI S a)) (v : Int32) : (X ++ va_pl S.L (wPF cyB cyI S)).set k (a, .inr (3, [.int (S.O_BirthStreetModel.f_streets a), .int (S.O_BirthStreetModel.f_houses a), va_rf (S.O_BirthStreetModel.f_kindOf a), va_rf (S.O_BirthStreetModel.f_ageOf a), va_rf (S.O_BirthStreetModel.f_birthsOf a), va_rf (S.O_BirthStreetModel.f_ageThen a), .int v, .int (S.O_BirthStreetModel.f_births a), .int (S.O_BirthStreetModel.f_debts a), va_rf (S.O_BirthStreetModel.f_debtMuch a), va_rf (S.O_BirthStreetModel.f_debtNumber a), .int (S.O_BirthStreetModel.f_heard a), va_rf (S.O_BirthStreetModel.f_heardHouse a), va_rf (S.O_BirthStreetModel.f_heardNumber a), .int (S.O_BirthStreetModel.f_pageLength a), va_rf (S.O_BirthStreetModel.f_page a), va_rf (S.O_BirthStreetModel.f_savedAge a), .long (S.O_BirthStreetModel.f_seedNow a), .int (S.O_BirthStreetModel.f_isKept a), .int (S.O_BirthStreetModel.f_keptStreet a), .int (S.O_BirthStreetModel.f_keptToday a), .int (S.O_BirthStreetModel.f_keptBirths a), .int (S.O_BirthStreetModel.f_keptDebts a), .int (S.O_BirthStreetModel.f_keptHeard a), va_rf (S.O_BirthStreetModel.f_keptAge a), va_rf (S.O_BirthStreetModel.f_keptBirthsOf a), va_rf (S.O_BirthStreetModel.f_keptThen a), va_rf (S.O_BirthStreetModel.f_keptMuch a), va_rf (S.O_BirthStreetModel.f_keptNumber a), va_rf (S.O_BirthStreetModel.f_keptHouse a), va_rf (S.O_BirthStreetModel.f_keptHeardNumber a), .long (S.O_BirthStreetModel.f_h a)])) = X ++ va_pl S.L (wPF cyB cyI { S with O_BirthStreetModel := { S.O_BirthStreetModel with f_today := va_up S.O_BirthStreetModel.f_today a v } }) := by
  rw [va_pl_set hD hL hk]
  exact congrArg (fun l => X ++ l) (va_pl_congr (wSt_O_BirthStreetModel_f_today cyB cyI S h v))
theorem wSt_O_BirthStreetModel_f_births (cyB : ClassId) (cyI : ClassId) (S : wPS) {a : Nat} (h : S.K a = 3) (v : Int32) (b : Nat) : va_up (wPF cyB cyI S) a (.inr (3, [.int (S.O_BirthStreetModel.f_streets a), .int (S.O_BirthStreetModel.f_houses a), va_rf (S.O_BirthStreetModel.f_kindOf a), va_rf (S.O_BirthStreetModel.f_ageOf a), va_rf (S.O_BirthStreetModel.f_birthsOf a), va_rf (S.O_BirthStreetModel.f_ageThen a), .int (S.O_BirthStreetModel.f_today a), .int v, .int (S.O_BirthStreetModel.f_debts a), va_rf (S.O_BirthStreetModel.f_debtMuch a), va_rf (S.O_BirthStreetModel.f_debtNumber a), .int (S.O_BirthStreetModel.f_heard a), va_rf (S.O_BirthStreetModel.f_heardHouse a), va_rf (S.O_BirthStreetModel.f_heardNumber a), .int (S.O_BirthStreetModel.f_pageLength a), va_rf (S.O_BirthStreetModel.f_page a), va_rf (S.O_BirthStreetModel.f_savedAge a), .long (S.O_BirthStreetModel.f_seedNow a), .int (S.O_BirthStreetModel.f_isKept a), .int (S.O_BirthStreetModel.f_keptStreet a), .int (S.O_BirthStreetModel.f_keptToday a), .int (S.O_BirthStreetModel.f_keptBirths a), .int (S.O_BirthStreetModel.f_keptDebts a), .int (S.O_BirthStreetModel.f_keptHeard a), va_rf (S.O_BirthStreetModel.f_keptAge a), va_rf (S.O_BirthStreetModel.f_keptBirthsOf a), va_rf (S.O_BirthStreetModel.f_keptThen a), va_rf (S.O_BirthStreetModel.f_keptMuch a), va_rf (S.O_BirthStreetModel.f_keptNumber a), va_rf (S.O_BirthStreetModel.f_keptHouse a), va_rf (S.O_BirthStreetModel.f_keptHeardNumber a), .long (S.O_BirthStreetModel.f_h a)])) b = wPF cyB cyI { S with O_BirthStreetModel := { S.O_BirthStreetModel with f_births := va_up S.O_BirthStreetModel.f_births a v } } b := by by_cases hb : b = a <;> first | (simp only [wPF, va_up_ne _ _ hb]; done) | (simp only [wPF, va_up, if_neg hb]; done) | simp [wPF, va_re, va_up, va_rf, hb, h]
theorem wPu_O_BirthStreetModel_f_births (cyB : ClassId) (cyI : ClassId) (X : va_W) (S : wPS) {A : Nat → Prop} {a k : Nat} (hD : va_D A (X ++ va_pl S.L (wPF cyB cyI S))) (hL : a ∈ S.L) (h : S.K a = 3) (hk : (X ++ va_pl S.L (wPF cyB cyI S))[k]? = some (a, wPF cyB cyI S a)) (v : Int32) : (X ++ va_pl S.L (wPF cyB cyI S)).set k (a, .inr (3, [.int (S.O_BirthStreetModel.f_streets a), .int (S.O_BirthStreetModel.f_houses a), va_rf (S.O_BirthStreetModel.f_kindOf a), va_rf (S.O_BirthStreetModel.f_ageOf a), va_rf (S.O_BirthStreetModel.f_birthsOf a), va_rf (S.O_BirthStreetModel.f_ageThen a), .int (S.O_BirthStreetModel.f_today a), .int v, .int (S.O_BirthStreetModel.f_debts a), va_rf (S.O_BirthStreetModel.f_debtMuch a), va_rf (S.O_BirthStreetModel.f_debtNumber a), .int (S.O_BirthStreetModel.f_heard a), va_rf (S.O_BirthStreetModel.f_heardHouse a), va_rf (S.O_BirthStreetModel.f_heardNumber a), .int (S.O_BirthStreetModel.f_pageLength a), va_rf (S.O_BirthStreetModel.f_page a), va_rf (S.O_BirthStreetModel.f_savedAge a), .long (S.O_BirthStreetModel.f_seedNow a), .int (S.O_BirthStreetModel.f_isKept a), .int (S.O_BirthStreetModel.f_keptStreet a), .int (S.O_BirthStreetModel.f_keptToday a), .int (S.O_BirthStreetModel.f_keptBirths a), .int (S.O_BirthStreetModel.f_keptDebts a), .int (S.O_BirthStreetModel.f_keptHeard a), va_rf (S.O_BirthStreetModel.f_keptAge a), va_rf (S.O_BirthStreetModel.f_keptBirthsOf a), va_rf (S.O_BirthStreetModel.f_keptThen a), va_rf (S.O_BirthStreetModel.f_keptMuch a), va_rf (S.O_BirthStreetModel.f_keptNumber a), va_rf (S.O_BirthStreetModel.f_keptHouse a), va_rf (S.O_BirthStreetModel.f_keptHeardNumber a), .long (S.O_BirthStreetModel.f_h a)])) = X ++ va_pl S.L (wPF cyB cyI { S with O_BirthStreetModel := { S.O_BirthStreetModel with f_births := va_up S.O_BirthStreetModel.f_births a v } }) := by
  rw [va_pl_set hD hL hk]
  exact congrArg (fun l => X ++ l) (va_pl_congr (wSt_O_BirthStreetModel_f_births cyB cyI S h v))
theorem wSt_O_BirthStreetModel_f_debts (cyB : ClassId) (cyI : ClassId) (S : wPS) {a : Nat} (h : S.K a = 3) (v : Int32) (b : Nat) : va_up (wPF cyB cyI S) a (.inr (3, [.int (S.O_BirthStreetModel.f_streets a), .int (S.O_BirthStreetModel.f_houses a), va_rf (S.O_BirthStreetModel.f_kindOf a), va_rf (S.O_BirthStreetModel.f_ageOf a), va_rf (S.O_BirthStreetModel.f_birthsOf a), va_rf (S.O_BirthStreetModel.f_ageThen a), .int (S.O_BirthStreetModel.f_today a), .int (S.O_BirthStreetModel.f_births a), .int v, va_rf (S.O_BirthStreetModel.f_debtMuch a), va_rf (S.O_BirthStreetModel.f_debtNumber a), .int (S.O_BirthStreetModel.f_heard a), va_rf (S.O_BirthStreetModel.f_heardHouse a), va_rf (S.O_BirthStreetModel.f_heardNumber a), .int (S.O_BirthStreetModel.f_pageLength a), va_rf (S.O_BirthStreetModel.f_page a), va_rf (S.O_BirthStreetModel.f_savedAge a), .long (S.O_BirthStreetModel.f_seedNow a), .int (S.O_BirthStreetModel.f_isKept a), .int (S.O_BirthStreetModel.f_keptStreet a), .int (S.O_BirthStreetModel.f_keptToday a), .int (S.O_BirthStreetModel.f_keptBirths a), .int (S.O_BirthStreetModel.f_keptDebts a), .int (S.O_BirthStreetModel.f_keptHeard a), va_rf (S.O_BirthStreetModel.f_keptAge a), va_rf (S.O_BirthStreetModel.f_keptBirthsOf a), va_rf (S.O_BirthStreetModel.f_keptThen a), va_rf (S.O_BirthStreetModel.f_keptMuch a), va_rf (S.O_BirthStreetModel.f_keptNumber a), va_rf (S.O_BirthStreetModel.f_keptHouse a), va_rf (S.O_BirthStreetModel.f_keptHeardNumber a), .long (S.O_BirthStreetModel.f_h a)])) b = wPF cyB cyI { S with O_BirthStreetModel := { S.O_BirthStreetModel with f_debts := va_up S.O_BirthStreetModel.f_debts a v } } b := by by_cases hb : b = a <;> first | (simp only [wPF, va_up_ne _ _ hb]; done) | (simp only [wPF, va_up, if_neg hb]; done) | simp [wPF, va_re, va_up, va_rf, hb, h]
theorem wPu_O_BirthStreetModel_f_debts (cyB : ClassId) (cyI : ClassId) (X : va_W) (S : wPS) {A : Nat → Prop} {a k : Nat} (hD : va_D A (X ++ va_pl S.L (wPF cyB cyI S))) (hL : a ∈ S.L) (h : S.K a = 3) (hk : (X ++ va_pl S.L (wPF cyB cyI S))[k]? = some (a, wPF cyB cyI S a)) (v : Int32) : (X ++ va_pl S.L (wPF cyB cyI S)).set k (a, .inr (3, [.int (S.O_BirthStreetModel.f_streets a), .int (S.O_BirthStreetModel.f_houses a), va_rf (S.O_BirthStreetModel.f_kindOf a), va_rf (S.O_BirthStreetModel.f_ageOf a), va_rf (S.O_BirthStreetModel.f_birthsOf a), va_rf (S.O_BirthStreetModel.f_ageThen a), .int (S.O_BirthStreetModel.f_today a), .int (S.O_BirthStreetModel.f_births a), .int v, va_rf (S.O_BirthStreetModel.f_debtMuch a), va_rf (S.O_BirthStreetModel.f_debtNumber a), .int (S.O_BirthStreetModel.f_heard a), va_rf (S.O_BirthStreetModel.f_heardHouse a), va_rf (S.O_BirthStreetModel.f_heardNumber a), .int (S.O_BirthStreetModel.f_pageLength a), va_rf (S.O_BirthStreetModel.f_page a), va_rf (S.O_BirthStreetModel.f_savedAge a), .long (S.O_BirthStreetModel.f_seedNow a), .int (S.O_BirthStreetModel.f_isKept a), .int (S.O_BirthStreetModel.f_keptStreet a), .int (S.O_BirthStreetModel.f_keptToday a), .int (S.O_BirthStreetModel.f_keptBirths a), .int (S.O_BirthStreetModel.f_keptDebts a), .int (S.O_BirthStreetModel.f_keptHeard a), va_rf (S.O_BirthStreetModel.f_keptAge a), va_rf (S.O_BirthStreetModel.f_keptBirthsOf a), va_rf (S.O_BirthStreetModel.f_keptThen a), va_rf (S.O_BirthStreetModel.f_keptMuch a), va_rf (S.O_BirthStreetModel.f_keptNumber a), va_rf (S.O_BirthStreetModel.f_keptHouse a), va_rf (S.O_BirthStreetModel.f_keptHeardNumber a), .long (S.O_BirthStreetModel.f_h a)])) = X ++ va_pl S.L (wPF cyB cyI { S with O_BirthStreetModel := { S.O_BirthStreetModel with f_debts := va_up S.O_BirthStreetModel.f_debts a v } }) := by
  rw [va_pl_set hD hL hk]
  exact congrArg (fun l => X ++ l) (va_pl_congr (wSt_O_BirthStreetModel_f_debts cyB cyI S h v))
theorem wSt_O_BirthStreetModel_f_debtMuch (cyB : ClassId) (cyI : ClassId) (S : wPS) {a : Nat} (h : S.K a = 3) (v : Option Nat) (b : Nat) : va_up (wPF cyB cyI S) a (.inr (3, [.int (S.O_BirthStreetModel.f_streets a), .int (S.O_BirthStreetModel.f_houses a), va_rf (S.O_BirthStreetModel.f_kindOf a), va_rf (S.O_BirthStreetModel.f_ageOf a), va_rf (S.O_BirthStreetModel.f_birthsOf a), va_rf (S.O_BirthStreetModel.f_ageThen a), .int (S.O_BirthStreetModel.f_today a), .int (S.O_BirthStreetModel.f_births a), .int (S.O_BirthStreetModel.f_debts a), va_rf v, va_rf (S.O_BirthStreetModel.f_debtNumber a), .int (S.O_BirthStreetModel.f_heard a), va_rf (S.O_BirthStreetModel.f_heardHouse a), va_rf (S.O_BirthStreetModel.f_heardNumber a), .int (S.O_BirthStreetModel.f_pageLength a), va_rf (S.O_BirthStreetModel.f_page a), va_rf (S.O_BirthStreetModel.f_savedAge a), .long (S.O_BirthStreetModel.f_seedNow a), .int (S.O_BirthStreetModel.f_isKept a), .int (S.O_BirthStreetModel.f_keptStreet a), .int (S.O_BirthStreetModel.f_keptToday a), .int (S.O_BirthStreetModel.f_keptBirths a), .int (S.O_BirthStreetModel.f_keptDebts a), .int (S.O_BirthStreetModel.f_keptHeard a), va_rf (S.O_BirthStreetModel.f_keptAge a), va_rf (S.O_BirthStreetModel.f_keptBirthsOf a), va_rf (S.O_BirthStreetModel.f_keptThen a), va_rf (S.O_BirthStreetModel.f_keptMuch a), va_rf (S.O_BirthStreetModel.f_keptNumber a), va_rf (S.O_BirthStreetModel.f_keptHouse a), va_rf (S.O_BirthStreetModel.f_keptHeardNumber a), .long (S.O_BirthStreetModel.f_h a)])) b = wPF cyB cyI { S with O_BirthStreetModel := { S.O_BirthStreetModel with f_debtMuch := va_up S.O_BirthStreetModel.f_debtMuch a v } } b := by by_cases hb : b = a <;> first | (simp only [wPF, va_up_ne _ _ hb]; done) | (simp only [wPF, va_up, if_neg hb]; done) | simp [wPF, va_re, va_up, va_rf, hb, h]
theorem wPu_O_BirthStreetModel_f_debtMuch (cyB : ClassId) (cyI : ClassId) (X : va_W) (S : wPS) {A : Nat → Prop} {a k : Nat} (hD : va_D A (X ++ va_pl S.L (wPF cyB cyI S))) (hL : a ∈ S.L) (h : S.K a = 3) (hk : (X ++ va_pl S.L (wPF cyB cyI S))[k]? = some (a, wPF cyB cyI S a)) (v : Option Nat) : (X ++ va_pl S.L (wPF cyB cyI S)).set k (a, .inr (3, [.int (S.O_BirthStreetModel.f_streets a), .int (S.O_BirthStreetModel.f_houses a), va_rf (S.O_BirthStreetModel.f_kindOf a), va_rf (S.O_BirthStreetModel.f_ageOf a), va_rf (S.O_BirthStreetModel.f_birthsOf a), va_rf (S.O_BirthStreetModel.f_ageThen a), .int (S.O_BirthStreetModel.f_today a), .int (S.O_BirthStreetModel.f_births a), .int (S.O_BirthStreetModel.f_debts a), va_rf v, va_rf (S.O_BirthStreetModel.f_debtNumber a), .int (S.O_BirthStreetModel.f_heard a), va_rf (S.O_BirthStreetModel.f_heardHouse a), va_rf (S.O_BirthStreetModel.f_heardNumber a), .int (S.O_BirthStreetModel.f_pageLength a), va_rf (S.O_BirthStreetModel.f_page a), va_rf (S.O_BirthStreetModel.f_savedAge a), .long (S.O_BirthStreetModel.f_seedNow a), .int (S.O_BirthStreetModel.f_isKept a), .int (S.O_BirthStreetModel.f_keptStreet a), .int (S.O_BirthStreetModel.f_keptToday a), .int (S.O_BirthStreetModel.f_keptBirths a), .int (S.O_BirthStreetModel.f_keptDebts a), .int (S.O_BirthStreetModel.f_keptHeard a), va_rf (S.O_BirthStreetModel.f_keptAge a), va_rf (S.O_BirthStreetModel.f_keptBirthsOf a), va_rf (S.O_BirthStreetModel.f_keptThen a), va_rf (S.O_BirthStreetModel.f_keptMuch a), va_rf (S.O_BirthStreetModel.f_keptNumber a), va_rf (S.O_BirthStreetModel.f_keptHouse a), va_rf (S.O_BirthStreetModel.f_keptHeardNumber a), .long (S.O_BirthStreetModel.f_h a)])) = X ++ va_pl S.L (wPF cyB cyI { S with O_BirthStreetModel := { S.O_BirthStreetModel with f_debtMuch := va_up S.O_BirthStreetModel.f_debtMuch a v } }) := by
  rw [va_pl_set hD hL hk]
  exact congrArg (fun l => X ++ l) (va_pl_congr (wSt_O_BirthStreetModel_f_debtMuch cyB cyI S h v))
theorem wSt_O_BirthStreetModel_f_debtNumber (cyB : ClassId) (cyI : ClassId) (S : wPS) {a : Nat} (h : S.K a = 3) (v : Option Nat) (b : Nat) : va_up (wPF cyB cyI S) a (.inr (3, [.int (S.O_BirthStreetModel.f_streets a), .int (S.O_BirthStreetModel.f_houses a), va_rf (S.O_BirthStreetModel.f_kindOf a), va_rf (S.O_BirthStreetModel.f_ageOf a), va_rf (S.O_BirthStreetModel.f_birthsOf a), va_rf (S.O_BirthStreetModel.f_ageThen a), .int (S.O_BirthStreetModel.f_today a), .int (S.O_BirthStreetModel.f_births a), .int (S.O_BirthStreetModel.f_debts a), va_rf (S.O_BirthStreetModel.f_debtMuch a), va_rf v, .int (S.O_BirthStreetModel.f_heard a), va_rf (S.O_BirthStreetModel.f_heardHouse a), va_rf (S.O_BirthStreetModel.f_heardNumber a), .int (S.O_BirthStreetModel.f_pageLength a), va_rf (S.O_BirthStreetModel.f_page a), va_rf (S.O_BirthStreetModel.f_savedAge a), .long (S.O_BirthStreetModel.f_seedNow a), .int (S.O_BirthStreetModel.f_isKept a), .int (S.O_BirthStreetModel.f_keptStreet a), .int (S.O_BirthStreetModel.f_keptToday a), .int (S.O_BirthStreetModel.f_keptBirths a), .int (S.O_BirthStreetModel.f_keptDebts a), .int (S.O_BirthStreetModel.f_keptHeard a), va_rf (S.O_BirthStreetModel.f_keptAge a), va_rf (S.O_BirthStreetModel.f_keptBirthsOf a), va_rf (S.O_BirthStreetModel.f_keptThen a), va_rf (S.O_BirthStreetModel.f_keptMuch a), va_rf (S.O_BirthStreetModel.f_keptNumber a), va_rf (S.O_BirthStreetModel.f_keptHouse a), va_rf (S.O_BirthStreetModel.f_keptHeardNumber a), .long (S.O_BirthStreetModel.f_h a)])) b = wPF cyB cyI { S with O_BirthStreetModel := { S.O_BirthStreetModel with f_debtNumber := va_up S.O_BirthStreetModel.f_debtNumber a v } } b := by by_cases hb : b = a <;> first | (simp only [wPF, va_up_ne _ _ hb]; done) | (simp only [wPF, va_up, if_neg hb]; done) | simp [wPF, va_re, va_up, va_rf, hb, h]
theorem wPu_O_BirthStreetModel_f_debtNumber (cyB : ClassId) (cyI : ClassId) (X : va_W) (S : wPS) {A : Nat → Prop} {a k : Nat} (hD : va_D A (X ++ va_pl S.L (wPF cyB cyI S))) (hL : a ∈ S.L) (h : S.K a = 3) (hk : (X ++ va_pl S.L (wPF cyB cyI S))[k]? = some (a, wPF cyB cyI S a)) (v : Option Nat) : (X ++ va_pl S.L (wPF cyB cyI S)).set k (a, .inr (3, [.int (S.O_BirthStreetModel.f_streets a), .int (S.O_BirthStreetModel.f_houses a), va_rf (S.O_BirthStreetModel.f_kindOf a), va_rf (S.O_BirthStreetModel.f_ageOf a), va_rf (S.O_BirthStreetModel.f_birthsOf a), va_rf (S.O_BirthStreetModel.f_ageThen a), .int (S.O_BirthStreetModel.f_today a), .int (S.O_BirthStreetModel.f_births a), .int (S.O_BirthStreetModel.f_debts a), va_rf (S.O_BirthStreetModel.f_debtMuch a), va_rf v, .int (S.O_BirthStreetModel.f_heard a), va_rf (S.O_BirthStreetModel.f_heardHouse a), va_rf (S.O_BirthStreetModel.f_heardNumber a), .int (S.O_BirthStreetModel.f_pageLength a), va_rf (S.O_BirthStreetModel.f_page a), va_rf (S.O_BirthStreetModel.f_savedAge a), .long (S.O_BirthStreetModel.f_seedNow a), .int (S.O_BirthStreetModel.f_isKept a), .int (S.O_BirthStreetModel.f_keptStreet a), .int (S.O_BirthStreetModel.f_keptToday a), .int (S.O_BirthStreetModel.f_keptBirths a), .int (S.O_BirthStreetModel.f_keptDebts a), .int (S.O_BirthStreetModel.f_keptHeard a), va_rf (S.O_BirthStreetModel.f_keptAge a), va_rf (S.O_BirthStreetModel.f_keptBirthsOf a), va_rf (S.O_BirthStreetModel.f_keptThen a), va_rf (S.O_BirthStreetModel.f_keptMuch a), va_rf (S.O_BirthStreetModel.f_keptNumber a), va_rf (S.O_BirthStreetModel.f_keptHouse a), va_rf (S.O_BirthStreetModel.f_keptHeardNumber a), .long (S.O_BirthStreetModel.f_h a)])) = X ++ va_pl S.L (wPF cyB cyI { S with O_BirthStreetModel := { S.O_BirthStreetModel with f_debtNumber := va_up S.O_BirthStreetModel.f_debtNumber a v } }) := by
  rw [va_pl_set hD hL hk]
  exact congrArg (fun l => X ++ l) (va_pl_congr (wSt_O_BirthStreetModel_f_debtNumber cyB cyI S h v))
theorem wSt_O_BirthStreetModel_f_heard (cyB : ClassId) (cyI : ClassId) (S : wPS) {a : Nat} (h : S.K a = 3) (v : Int32) (b : Nat) : va_up (wPF cyB cyI S) a (.inr (3, [.int (S.O_BirthStreetModel.f_streets a), .int (S.O_BirthStreetModel.f_houses a), va_rf (S.O_BirthStreetModel.f_kindOf a), va_rf (S.O_BirthStreetModel.f_ageOf a), va_rf (S.O_BirthStreetModel.f_birthsOf a), va_rf (S.O_BirthStreetModel.f_ageThen a), .int (S.O_BirthStreetModel.f_today a), .int (S.O_BirthStreetModel.f_births a), .int (S.O_BirthStreetModel.f_debts a), va_rf (S.O_BirthStreetModel.f_debtMuch a), va_rf (S.O_BirthStreetModel.f_debtNumber a), .int v, va_rf (S.O_BirthStreetModel.f_heardHouse a), va_rf (S.O_BirthStreetModel.f_heardNumber a), .int (S.O_BirthStreetModel.f_pageLength a), va_rf (S.O_BirthStreetModel.f_page a), va_rf (S.O_BirthStreetModel.f_savedAge a), .long (S.O_BirthStreetModel.f_seedNow a), .int (S.O_BirthStreetModel.f_isKept a), .int (S.O_BirthStreetModel.f_keptStreet a), .int (S.O_BirthStreetModel.f_keptToday a), .int (S.O_BirthStreetModel.f_keptBirths a), .int (S.O_BirthStreetModel.f_keptDebts a), .int (S.O_BirthStreetModel.f_keptHeard a), va_rf (S.O_BirthStreetModel.f_keptAge a), va_rf (S.O_BirthStreetModel.f_keptBirthsOf a), va_rf (S.O_BirthStreetModel.f_keptThen a), va_rf (S.O_BirthStreetModel.f_keptMuch a), va_rf (S.O_BirthStreetModel.f_keptNumber a), va_rf (S.O_BirthStreetModel.f_keptHouse a), va_rf (S.O_BirthStreetModel.f_keptHeardNumber a), .long (S.O_BirthStreetModel.f_h a)])) b = wPF cyB cyI { S with O_BirthStreetModel := { S.O_BirthStreetModel with f_heard := va_up S.O_BirthStreetModel.f_heard a v } } b := by by_cases hb : b = a <;> first | (simp only [wPF, va_up_ne _ _ hb]; done) | (simp only [wPF, va_up, if_neg hb]; done) | simp [wPF, va_re, va_up, va_rf, hb, h]
theorem wPu_O_BirthStreetModel_f_heard (cyB : ClassId) (cyI : ClassId) (X : va_W) (S : wPS) {A : Nat → Prop} {a k : Nat} (hD : va_D A (X ++ va_pl S.L (wPF cyB cyI S))) (hL : a ∈ S.L) (h : S.K a = 3) (hk : (X ++ va_pl S.L (wPF cyB cyI S))[k]? = some (a, wPF cyB cyI S a)) (v : Int32) : (X ++ va_pl S.L (wPF cyB cyI S)).set k (a, .inr (3, [.int (S.O_BirthStreetModel.f_streets a), .int (S.O_BirthStreetModel.f_houses a), va_rf (S.O_BirthStreetModel.f_kindOf a), va_rf (S.O_BirthStreetModel.f_ageOf a), va_rf (S.O_BirthStreetModel.f_birthsOf a), va_rf (S.O_BirthStreetModel.f_ageThen a), .int (S.O_BirthStreetModel.f_today a), .int (S.O_BirthStreetModel.f_births a), .int (S.O_BirthStreetModel.f_debts a), va_rf (S.O_BirthStreetModel.f_debtMuch a), va_rf (S.O_BirthStreetModel.f_debtNumber a), .int v, va_rf (S.O_BirthStreetModel.f_heardHouse a), va_rf (S.O_BirthStreetModel.f_heardNumber a), .int (S.O_BirthStreetModel.f_pageLength a), va_rf (S.O_BirthStreetModel.f_page a), va_rf (S.O_BirthStreetModel.f_savedAge a), .long (S.O_BirthStreetModel.f_seedNow a), .int (S.O_BirthStreetModel.f_isKept a), .int (S.O_BirthStreetModel.f_keptStreet a), .int (S.O_BirthStreetModel.f_keptToday a), .int (S.O_BirthStreetModel.f_keptBirths a), .int (S.O_BirthStreetModel.f_keptDebts a), .int (S.O_BirthStreetModel.f_keptHeard a), va_rf (S.O_BirthStreetModel.f_keptAge a), va_rf (S.O_BirthStreetModel.f_keptBirthsOf a), va_rf (S.O_BirthStreetModel.f_keptThen a), va_rf (S.O_BirthStreetModel.f_keptMuch a), va_rf (S.O_BirthStreetModel.f_keptNumber a), va_rf (S.O_BirthStreetModel.f_keptHouse a), va_rf (S.O_BirthStreetModel.f_keptHeardNumber a), .long (S.O_BirthStreetModel.f_h a)])) = X ++ va_pl S.L (wPF cyB cyI { S with O_BirthStreetModel := { S.O_BirthStreetModel with f_heard := va_up S.O_BirthStreetModel.f_heard a v } }) := by
  rw [va_pl_set hD hL hk]
  exact congrArg (fun l => X ++ l) (va_pl_congr (wSt_O_BirthStreetModel_f_heard cyB cyI S h v))
theorem wSt_O_BirthStreetModel_f_heardHouse (cyB : ClassId) (cyI : ClassId) (S : wPS) {a : Nat} (h : S.K a = 3) (v : Option Nat) (b : Nat) : va_up (wPF cyB cyI S) a (.inr (3, [.int (S.O_BirthStreetModel.f_streets a), .int (S.O_BirthStreetModel.f_houses a), va_rf (S.O_BirthStreetModel.f_kindOf a), va_rf (S.O_BirthStreetModel.f_ageOf a), va_rf (S.O_BirthStreetModel.f_birthsOf a), va_rf (S.O_BirthStreetModel.f_ageThen a), .int (S.O_BirthStreetModel.f_today a), .int (S.O_BirthStreetModel.f_births a), .int (S.O_BirthStreetModel.f_debts a), va_rf (S.O_BirthStreetModel.f_debtMuch a), va_rf (S.O_BirthStreetModel.f_debtNumber a), .int (S.O_BirthStreetModel.f_heard a), va_rf v, va_rf (S.O_BirthStreetModel.f_heardNumber a), .int (S.O_BirthStreetModel.f_pageLength a), va_rf (S.O_BirthStreetModel.f_page a), va_rf (S.O_BirthStreetModel.f_savedAge a), .long (S.O_BirthStreetModel.f_seedNow a), .int (S.O_BirthStreetModel.f_isKept a), .int (S.O_BirthStreetModel.f_keptStreet a), .int (S.O_BirthStreetModel.f_keptToday a), .int (S.O_BirthStreetModel.f_keptBirths a), .int (S.O_BirthStreetModel.f_keptDebts a), .int (S.O_BirthStreetModel.f_keptHeard a), va_rf (S.O_BirthStreetModel.f_keptAge a), va_rf (S.O_BirthStreetModel.f_keptBirthsOf a), va_rf (S.O_BirthStreetModel.f_keptThen a), va_rf (S.O_BirthStreetModel.f_keptMuch a), va_rf (S.O_BirthStreetModel.f_keptNumber a), va_rf (S.O_BirthStreetModel.f_keptHouse a), va_rf (S.O_BirthStreetModel.f_keptHeardNumber a), .long (S.O_BirthStreetModel.f_h a)])) b = wPF cyB cyI { S with O_BirthStreetModel := { S.O_BirthStreetModel with f_heardHouse := va_up S.O_BirthStreetModel.f_heardHouse a v } } b := by by_cases hb : b = a <;> first | (simp only [wPF, va_up_ne _ _ hb]; done) | (simp only [wPF, va_up, if_neg hb]; done) | simp [wPF, va_re, va_up, va_rf, hb, h]
theorem wPu_O_BirthStreetModel_f_heardHouse (cyB : ClassId) (cyI : ClassId) (X : va_W) (S : wPS) {A : Nat → Prop} {a k : Nat} (hD : va_D A (X ++ va_pl S.L (wPF cyB cyI S))) (hL : a ∈ S.L) (h : S.K a = 3) (hk : (X ++ va_pl S.L (wPF cyB cyI S))[k]? = some (a, wPF cyB cyI S a)) (v : Option Nat) : (X ++ va_pl S.L (wPF cyB cyI S)).set k (a, .inr (3, [.int (S.O_BirthStreetModel.f_streets a), .int (S.O_BirthStreetModel.f_houses a), va_rf (S.O_BirthStreetModel.f_kindOf a), va_rf (S.O_BirthStreetModel.f_ageOf a), va_rf (S.O_BirthStreetModel.f_birthsOf a), va_rf (S.O_BirthStreetModel.f_ageThen a), .int (S.O_BirthStreetModel.f_today a), .int (S.O_BirthStreetModel.f_births a), .int (S.O_BirthStreetModel.f_debts a), va_rf (S.O_BirthStreetModel.f_debtMuch a), va_rf (S.O_BirthStreetModel.f_debtNumber a), .int (S.O_BirthStreetModel.f_heard a), va_rf v, va_rf (S.O_BirthStreetModel.f_heardNumber a), .int (S.O_BirthStreetModel.f_pageLength a), va_rf (S.O_BirthStreetModel.f_page a), va_rf (S.O_BirthStreetModel.f_savedAge a), .long (S.O_BirthStreetModel.f_seedNow a), .int (S.O_BirthStreetModel.f_isKept a), .int (S.O_BirthStreetModel.f_keptStreet a), .int (S.O_BirthStreetModel.f_keptToday a), .int (S.O_BirthStreetModel.f_keptBirths a), .int (S.O_BirthStreetModel.f_keptDebts a), .int (S.O_BirthStreetModel.f_keptHeard a), va_rf (S.O_BirthStreetModel.f_keptAge a), va_rf (S.O_BirthStreetModel.f_keptBirthsOf a), va_rf (S.O_BirthStreetModel.f_keptThen a), va_rf (S.O_BirthStreetModel.f_keptMuch a), va_rf (S.O_BirthStreetModel.f_keptNumber a), va_rf (S.O_BirthStreetModel.f_keptHouse a), va_rf (S.O_BirthStreetModel.f_keptHeardNumber a), .long (S.O_BirthStreetModel.f_h a)])) = X ++ va_pl S.L (wPF cyB cyI { S with O_BirthStreetModel := { S.O_BirthStreetModel with f_heardHouse := va_up S.O_BirthStreetModel.f_heardHouse a v } }) := by
  rw [va_pl_set hD hL hk]
  exact congrArg (fun l => X ++ l) (va_pl_congr (wSt_O_BirthStreetModel_f_heardHouse cyB cyI S h v))
theorem wSt_O_BirthStreetModel_f_heardNumber (cyB : ClassId) (cyI : ClassId) (S : wPS) {a : Nat} (h : S.K a = 3) (v : Option Nat) (b : Nat) : va_up (wPF cyB cyI S) a (.inr (3, [.int (S.O_BirthStreetModel.f_streets a), .int (S.O_BirthStreetModel.f_houses a), va_rf (S.O_BirthStreetModel.f_kindOf a), va_rf (S.O_BirthStreetModel.f_ageOf a), va_rf (S.O_BirthStreetModel.f_birthsOf a), va_rf (S.O_BirthStreetModel.f_ageThen a), .int (S.O_BirthStreetModel.f_today a), .int (S.O_BirthStreetModel.f_births a), .int (S.O_BirthStreetModel.f_debts a), va_rf (S.O_BirthStreetModel.f_debtMuch a), va_rf (S.O_BirthStreetModel.f_debtNumber a), .int (S.O_BirthStreetModel.f_heard a), va_rf (S.O_BirthStreetModel.f_heardHouse a), va_rf v, .int (S.O_BirthStreetModel.f_pageLength a), va_rf (S.O_BirthStreetModel.f_page a), va_rf (S.O_BirthStreetModel.f_savedAge a), .long (S.O_BirthStreetModel.f_seedNow a), .int (S.O_BirthStreetModel.f_isKept a), .int (S.O_BirthStreetModel.f_keptStreet a), .int (S.O_BirthStreetModel.f_keptToday a), .int (S.O_BirthStreetModel.f_keptBirths a), .int (S.O_BirthStreetModel.f_keptDebts a), .int (S.O_BirthStreetModel.f_keptHeard a), va_rf (S.O_BirthStreetModel.f_keptAge a), va_rf (S.O_BirthStreetModel.f_keptBirthsOf a), va_rf (S.O_BirthStreetModel.f_keptThen a), va_rf (S.O_BirthStreetModel.f_keptMuch a), va_rf (S.O_BirthStreetModel.f_keptNumber a), va_rf (S.O_BirthStreetModel.f_keptHouse a), va_rf (S.O_BirthStreetModel.f_keptHeardNumber a), .long (S.O_BirthStreetModel.f_h a)])) b = wPF cyB cyI { S with O_BirthStreetModel := { S.O_BirthStreetModel with f_heardNumber := va_up S.O_BirthStreetModel.f_heardNumber a v } } b := by by_cases hb : b = a <;> first | (simp only [wPF, va_up_ne _ _ hb]; done) | (simp only [wPF, va_up, if_neg hb]; done) | simp [wPF, va_re, va_up, va_rf, hb, h]
theorem wPu_O_BirthStreetModel_f_heardNumber (cyB : ClassId) (cyI : ClassId) (X : va_W) (S : wPS) {A : Nat → Prop} {a k : Nat} (hD : va_D A (X ++ va_pl S.L (wPF cyB cyI S))) (hL : a ∈ S.L) (h : S.K a = 3) (hk : (X ++ va_pl S.L (wPF cyB cyI S))[k]? = some (a, wPF cyB cyI S a)) (v : Option Nat) : (X ++ va_pl S.L (wPF cyB cyI S)).set k (a, .inr (3, [.int (S.O_BirthStreetModel.f_streets a), .int (S.O_BirthStreetModel.f_houses a), va_rf (S.O_BirthStreetModel.f_kindOf a), va_rf (S.O_BirthStreetModel.f_ageOf a), va_rf (S.O_BirthStreetModel.f_birthsOf a), va_rf (S.O_BirthStreetModel.f_ageThen a), .int (S.O_BirthStreetModel.f_today a), .int (S.O_BirthStreetModel.f_births a), .int (S.O_BirthStreetModel.f_debts a), va_rf (S.O_BirthStreetModel.f_debtMuch a), va_rf (S.O_BirthStreetModel.f_debtNumber a), .int (S.O_BirthStreetModel.f_heard a), va_rf (S.O_BirthStreetModel.f_heardHouse a), va_rf v, .int (S.O_BirthStreetModel.f_pageLength a), va_rf (S.O_BirthStreetModel.f_page a), va_rf (S.O_BirthStreetModel.f_savedAge a), .long (S.O_BirthStreetModel.f_seedNow a), .int (S.O_BirthStreetModel.f_isKept a), .int (S.O_BirthStreetModel.f_keptStreet a), .int (S.O_BirthStreetModel.f_keptToday a), .int (S.O_BirthStreetModel.f_keptBirths a), .int (S.O_BirthStreetModel.f_keptDebts a), .int (S.O_BirthStreetModel.f_keptHeard a), va_rf (S.O_BirthStreetModel.f_keptAge a), va_rf (S.O_BirthStreetModel.f_keptBirthsOf a), va_rf (S.O_BirthStreetModel.f_keptThen a), va_rf (S.O_BirthStreetModel.f_keptMuch a), va_rf (S.O_BirthStreetModel.f_keptNumber a), va_rf (S.O_BirthStreetModel.f_keptHouse a), va_rf (S.O_BirthStreetModel.f_keptHeardNumber a), .long (S.O_BirthStreetModel.f_h a)])) = X ++ va_pl S.L (wPF cyB cyI { S with O_BirthStreetModel := { S.O_BirthStreetModel with f_heardNumber := va_up S.O_BirthStreetModel.f_heardNumber a v } }) := by
  rw [va_pl_set hD hL hk]
  exact congrArg (fun l => X ++ l) (va_pl_congr (wSt_O_BirthStreetModel_f_heardNumber cyB cyI S h v))
theorem wSt_O_BirthStreetModel_f_pageLength (cyB : ClassId) (cyI : ClassId) (S : wPS) {a : Nat} (h : S.K a = 3) (v : Int32) (b : Nat) : va_up (wPF cyB cyI S) a (.inr (3, [.int (S.O_BirthStreetModel.f_streets a), .int (S.O_BirthStreetModel.f_houses a), va_rf (S.O_BirthStreetModel.f_kindOf a), va_rf (S.O_BirthStreetModel.f_ageOf a), va_rf (S.O_BirthStreetModel.f_birthsOf a), va_rf (S.O_BirthStreetModel.f_ageThen a), .int (S.O_BirthStreetModel.f_today a), .int (S.O_BirthStreetModel.f_births a), .int (S.O_BirthStreetModel.f_debts a), va_rf (S.O_BirthStreetModel.f_debtMuch a), va_rf (S.O_BirthStreetModel.f_debtNumber a), .int (S.O_BirthStreetModel.f_heard a), va_rf (S.O_BirthStreetModel.f_heardHouse a), va_rf (S.O_BirthStreetModel.f_heardNumber a), .int v, va_rf (S.O_BirthStreetModel.f_page a), va_rf (S.O_BirthStreetModel.f_savedAge a), .long (S.O_BirthStreetModel.f_seedNow a), .int (S.O_BirthStreetModel.f_isKept a), .int (S.O_BirthStreetModel.f_keptStreet a), .int (S.O_BirthStreetModel.f_keptToday a), .int (S.O_BirthStreetModel.f_keptBirths a), .int (S.O_BirthStreetModel.f_keptDebts a), .int (S.O_BirthStreetModel.f_keptHeard a), va_rf (S.O_BirthStreetModel.f_keptAge a), va_rf (S.O_BirthStreetModel.f_keptBirthsOf a), va_rf (S.O_BirthStreetModel.f_keptThen a), va_rf (S.O_BirthStreetModel.f_keptMuch a), va_rf (S.O_BirthStreetModel.f_keptNumber a), va_rf (S.O_BirthStreetModel.f_keptHouse a), va_rf (S.O_BirthStreetModel.f_keptHeardNumber a), .long (S.O_BirthStreetModel.f_h a)])) b = wPF cyB cyI { S with O_BirthStreetModel := { S.O_BirthStreetModel with f_pageLength := va_up S.O_BirthStreetModel.f_pageLength a v } } b := by by_cases hb : b = a <;> first | (simp only [wPF, va_up_ne _ _ hb]; done) | (simp only [wPF, va_up, if_neg hb]; done) | simp [wPF, va_re, va_up, va_rf, hb, h]
theorem wPu_O_BirthStreetModel_f_pageLength (cyB : ClassId) (cyI : ClassId) (X : va_W) (S : wPS) {A : Nat → Prop} {a k : Nat} (hD : va_D A (X ++ va_pl S.L (wPF cyB cyI S))) (hL : a ∈ S.L) (h : S.K a = 3) (hk : (X ++ va_pl S.L (wPF cyB cyI S))[k]? = some (a, wPF cyB cyI S a)) (v : Int32) : (X ++ va_pl S.L (wPF cyB cyI S)).set k (a, .inr (3, [.int (S.O_BirthStreetModel.f_streets a), .int (S.O_BirthStreetModel.f_houses a), va_rf (S.O_BirthStreetModel.f_kindOf a), va_rf (S.O_BirthStreetModel.f_ageOf a), va_rf (S.O_BirthStreetModel.f_birthsOf a), va_rf (S.O_BirthStreetModel.f_ageThen a), .int (S.O_BirthStreetModel.f_today a), .int (S.O_BirthStreetModel.f_births a), .int (S.O_BirthStreetModel.f_debts a), va_rf (S.O_BirthStreetModel.f_debtMuch a), va_rf (S.O_BirthStreetModel.f_debtNumber a), .int (S.O_BirthStreetModel.f_heard a), va_rf (S.O_BirthStreetModel.f_heardHouse a), va_rf (S.O_BirthStreetModel.f_heardNumber a), .int v, va_rf (S.O_BirthStreetModel.f_page a), va_rf (S.O_BirthStreetModel.f_savedAge a), .long (S.O_BirthStreetModel.f_seedNow a), .int (S.O_BirthStreetModel.f_isKept a), .int (S.O_BirthStreetModel.f_keptStreet a), .int (S.O_BirthStreetModel.f_keptToday a), .int (S.O_BirthStreetModel.f_keptBirths a), .int (S.O_BirthStreetModel.f_keptDebts a), .int (S.O_BirthStreetModel.f_keptHeard a), va_rf (S.O_BirthStreetModel.f_keptAge a), va_rf (S.O_BirthStreetModel.f_keptBirthsOf a), va_rf (S.O_BirthStreetModel.f_keptThen a), va_rf (S.O_BirthStreetModel.f_keptMuch a), va_rf (S.O_BirthStreetModel.f_keptNumber a), va_rf (S.O_BirthStreetModel.f_keptHouse a), va_rf (S.O_BirthStreetModel.f_keptHeardNumber a), .long (S.O_BirthStreetModel.f_h a)])) = X ++ va_pl S.L (wPF cyB cyI { S with O_BirthStreetModel := { S.O_BirthStreetModel with f_pageLength := va_up S.O_BirthStreetModel.f_pageLength a v } }) := by
  rw [va_pl_set hD hL hk]
  exact congrArg (fun l => X ++ l) (va_pl_congr (wSt_O_BirthStreetModel_f_pageLength cyB cyI S h v))
theorem wSt_O_BirthStreetModel_f_page (cyB : ClassId) (cyI : ClassId) (S : wPS) {a : Nat} (h : S.K a = 3) (v : Option Nat) (b : Nat) : va_up (wPF cyB cyI S) a (.inr (3, [.int (S.O_BirthStreetModel.f_streets a), .int (S.O_BirthStreetModel.f_houses a), va_rf (S.O_BirthStreetModel.f_kindOf a), va_rf (S.O_BirthStreetModel.f_ageOf a), va_rf (S.O_BirthStreetModel.f_birthsOf a), va_rf (S.O_BirthStreetModel.f_ageThen a), .int (S.O_BirthStreetModel.f_today a), .int (S.O_BirthStreetModel.f_births a), .int (S.O_BirthStreetModel.f_debts a), va_rf (S.O_BirthStreetModel.f_debtMuch a), va_rf (S.O_BirthStreetModel.f_debtNumber a), .int (S.O_BirthStreetModel.f_heard a), va_rf (S.O_BirthStreetModel.f_heardHouse a), va_rf (S.O_BirthStreetModel.f_heardNumber a), .int (S.O_BirthStreetModel.f_pageLength a), va_rf v, va_rf (S.O_BirthStreetModel.f_savedAge a), .long (S.O_BirthStreetModel.f_seedNow a), .int (S.O_BirthStreetModel.f_isKept a), .int (S.O_BirthStreetModel.f_keptStreet a), .int (S.O_BirthStreetModel.f_keptToday a), .int (S.O_BirthStreetModel.f_keptBirths a), .int (S.O_BirthStreetModel.f_keptDebts a), .int (S.O_BirthStreetModel.f_keptHeard a), va_rf (S.O_BirthStreetModel.f_keptAge a), va_rf (S.O_BirthStreetModel.f_keptBirthsOf a), va_rf (S.O_BirthStreetModel.f_keptThen a), va_rf (S.O_BirthStreetModel.f_keptMuch a), va_rf (S.O_BirthStreetModel.f_keptNumber a), va_rf (S.O_BirthStreetModel.f_keptHouse a), va_rf (S.O_BirthStreetModel.f_keptHeardNumber a), .long (S.O_BirthStreetModel.f_h a)])) b = wPF cyB cyI { S with O_BirthStreetModel := { S.O_BirthStreetModel with f_page := va_up S.O_BirthStreetModel.f_page a v } } b := by by_cases hb : b = a <;> first | (simp only [wPF, va_up_ne _ _ hb]; done) | (simp only [wPF, va_up, if_neg hb]; done) | simp [wPF, va_re, va_up, va_rf, hb, h]
theorem wPu_O_BirthStreetModel_f_page (cyB : ClassId) (cyI : ClassId) (X : va_W) (S : wPS) {A : Nat → Prop} {a k : Nat} (hD : va_D A (X ++ va_pl S.L (wPF cyB cyI S))) (hL : a ∈ S.L) (h : S.K a = 3) (hk : (X ++ va_pl S.L (wPF cyB cyI S))[k]? = some (a, wPF cyB cyI S a)) (v : Option Nat) : (X ++ va_pl S.L (wPF cyB cyI S)).set k (a, .inr (3, [.int (S.O_BirthStreetModel.f_streets a), .int (S.O_BirthStreetModel.f_houses a), va_rf (S.O_BirthStreetModel.f_kindOf a), va_rf (S.O_BirthStreetModel.f_ageOf a), va_rf (S.O_BirthStreetModel.f_birthsOf a), va_rf (S.O_BirthStreetModel.f_ageThen a), .int (S.O_BirthStreetModel.f_today a), .int (S.O_BirthStreetModel.f_births a), .int (S.O_BirthStreetModel.f_debts a), va_rf (S.O_BirthStreetModel.f_debtMuch a), va_rf (S.O_BirthStreetModel.f_debtNumber a), .int (S.O_BirthStreetModel.f_heard a), va_rf (S.O_BirthStreetModel.f_heardHouse a), va_rf (S.O_BirthStreetModel.f_heardNumber a), .int (S.O_BirthStreetModel.f_pageLength a), va_rf v, va_rf (S.O_BirthStreetModel.f_savedAge a), .long (S.O_BirthStreetModel.f_seedNow a), .int (S.O_BirthStreetModel.f_isKept a), .int (S.O_BirthStreetModel.f_keptStreet a), .int (S.O_BirthStreetModel.f_keptToday a), .int (S.O_BirthStreetModel.f_keptBirths a), .int (S.O_BirthStreetModel.f_keptDebts a), .int (S.O_BirthStreetModel.f_keptHeard a), va_rf (S.O_BirthStreetModel.f_keptAge a), va_rf (S.O_BirthStreetModel.f_keptBirthsOf a), va_rf (S.O_BirthStreetModel.f_keptThen a), va_rf (S.O_BirthStreetModel.f_keptMuch a), va_rf (S.O_BirthStreetModel.f_keptNumber a), va_rf (S.O_BirthStreetModel.f_keptHouse a), va_rf (S.O_BirthStreetModel.f_keptHeardNumber a), .long (S.O_BirthStreetModel.f_h a)])) = X ++ va_pl S.L (wPF cyB cyI { S with O_BirthStreetModel := { S.O_BirthStreetModel with f_page := va_up S.O_BirthStreetModel.f_page a v } }) := by
  rw [va_pl_set hD hL hk]
  exact congrArg (fun l => X ++ l) (va_pl_congr (wSt_O_BirthStreetModel_f_page cyB cyI S h v))
theorem wSt_O_BirthStreetModel_f_savedAge (cyB : ClassId) (cyI : ClassId) (S : wPS) {a : Nat} (h : S.K a = 3) (v : Option Nat) (b : Nat) : va_up (wPF cyB cyI S) a (.inr (3, [.int (S.O_BirthStreetModel.f_streets a), .int (S.O_BirthStreetModel.f_houses a), va_rf (S.O_BirthStreetModel.f_kindOf a), va_rf (S.O_BirthStreetModel.f_ageOf a), va_rf (S.O_BirthStreetModel.f_birthsOf a), va_rf (S.O_BirthStreetModel.f_ageThen a), .int (S.O_BirthStreetModel.f_today a), .int (S.O_BirthStreetModel.f_births a), .int (S.O_BirthStreetModel.f_debts a), va_rf (S.O_BirthStreetModel.f_debtMuch a), va_rf (S.O_BirthStreetModel.f_debtNumber a), .int (S.O_BirthStreetModel.f_heard a), va_rf (S.O_BirthStreetModel.f_heardHouse a), va_rf (S.O_BirthStreetModel.f_heardNumber a), .int (S.O_BirthStreetModel.f_pageLength a), va_rf (S.O_BirthStreetModel.f_page a), va_rf v, .long (S.O_BirthStreetModel.f_seedNow a), .int (S.O_BirthStreetModel.f_isKept a), .int (S.O_BirthStreetModel.f_keptStreet a), .int (S.O_BirthStreetModel.f_keptToday a), .int (S.O_BirthStreetModel.f_keptBirths a), .int (S.O_BirthStreetModel.f_keptDebts a), .int (S.O_BirthStreetModel.f_keptHeard a), va_rf (S.O_BirthStreetModel.f_keptAge a), va_rf (S.O_BirthStreetModel.f_keptBirthsOf a), va_rf (S.O_BirthStreetModel.f_keptThen a), va_rf (S.O_BirthStreetModel.f_keptMuch a), va_rf (S.O_BirthStreetModel.f_keptNumber a), va_rf (S.O_BirthStreetModel.f_keptHouse a), va_rf (S.O_BirthStreetModel.f_keptHeardNumber a), .long (S.O_BirthStreetModel.f_h a)])) b = wPF cyB cyI { S with O_BirthStreetModel := { S.O_BirthStreetModel with f_savedAge := va_up S.O_BirthStreetModel.f_savedAge a v } } b := by by_cases hb : b = a <;> first | (simp only [wPF, va_up_ne _ _ hb]; done) | (simp only [wPF, va_up, if_neg hb]; done) | simp [wPF, va_re, va_up, va_rf, hb, h]
theorem wPu_O_BirthStreetModel_f_savedAge (cyB : ClassId) (cyI : ClassId) (X : va_W) (S : wPS) {A : Nat → Prop} {a k : Nat} (hD : va_D A (X ++ va_pl S.L (wPF cyB cyI S))) (hL : a ∈ S.L) (h : S.K a = 3) (hk : (X ++ va_pl S.L (wPF cyB cyI S))[k]? = some (a, wPF cyB cyI S a)) (v : Option Nat) : (X ++ va_pl S.L (wPF cyB cyI S)).set k (a, .inr (3, [.int (S.O_BirthStreetModel.f_streets a), .int (S.O_BirthStreetModel.f_houses a), va_rf (S.O_BirthStreetModel.f_kindOf a), va_rf (S.O_BirthStreetModel.f_ageOf a), va_rf (S.O_BirthStreetModel.f_birthsOf a), va_rf (S.O_BirthStreetModel.f_ageThen a), .int (S.O_BirthStreetModel.f_today a), .int (S.O_BirthStreetModel.f_births a), .int (S.O_BirthStreetModel.f_debts a), va_rf (S.O_BirthStreetModel.f_debtMuch a), va_rf (S.O_BirthStreetModel.f_debtNumber a), .int (S.O_BirthStreetModel.f_heard a), va_rf (S.O_BirthStreetModel.f_heardHouse a), va_rf (S.O_BirthStreetModel.f_heardNumber a), .int (S.O_BirthStreetModel.f_pageLength a), va_rf (S.O_BirthStreetModel.f_page a), va_rf v, .long (S.O_BirthStreetModel.f_seedNow a), .int (S.O_BirthStreetModel.f_isKept a), .int (S.O_BirthStreetModel.f_keptStreet a), .int (S.O_BirthStreetModel.f_keptToday a), .int (S.O_BirthStreetModel.f_keptBirths a), .int (S.O_BirthStreetModel.f_keptDebts a), .int (S.O_BirthStreetModel.f_keptHeard a), va_rf (S.O_BirthStreetModel.f_keptAge a), va_rf (S.O_BirthStreetModel.f_keptBirthsOf a), va_rf (S.O_BirthStreetModel.f_keptThen a), va_rf (S.O_BirthStreetModel.f_keptMuch a), va_rf (S.O_BirthStreetModel.f_keptNumber a), va_rf (S.O_BirthStreetModel.f_keptHouse a), va_rf (S.O_BirthStreetModel.f_keptHeardNumber a), .long (S.O_BirthStreetModel.f_h a)])) = X ++ va_pl S.L (wPF cyB cyI { S with O_BirthStreetModel := { S.O_BirthStreetModel with f_savedAge := va_up S.O_BirthStreetModel.f_savedAge a v } }) := by
  rw [va_pl_set hD hL hk]
  exact congrArg (fun l => X ++ l) (va_pl_congr (wSt_O_BirthStreetModel_f_savedAge cyB cyI S h v))
theorem wSt_O_BirthStreetModel_f_seedNow (cyB : ClassId) (cyI : ClassId) (S : wPS) {a : Nat} (h : S.K a = 3) (v : Int64) (b : Nat) : va_up (wPF cyB cyI S) a (.inr (3, [.int (S.O_BirthStreetModel.f_streets a), .int (S.O_BirthStreetModel.f_houses a), va_rf (S.O_BirthStreetModel.f_kindOf a), va_rf (S.O_BirthStreetModel.f_ageOf a), va_rf (S.O_BirthStreetModel.f_birthsOf a), va_rf (S.O_BirthStreetModel.f_ageThen a), .int (S.O_BirthStreetModel.f_today a), .int (S.O_BirthStreetModel.f_births a), .int (S.O_BirthStreetModel.f_debts a), va_rf (S.O_BirthStreetModel.f_debtMuch a), va_rf (S.O_BirthStreetModel.f_debtNumber a), .int (S.O_BirthStreetModel.f_heard a), va_rf (S.O_BirthStreetModel.f_heardHouse a), va_rf (S.O_BirthStreetModel.f_heardNumber a), .int (S.O_BirthStreetModel.f_pageLength a), va_rf (S.O_BirthStreetModel.f_page a), va_rf (S.O_BirthStreetModel.f_savedAge a), .long v, .int (S.O_BirthStreetModel.f_isKept a), .int (S.O_BirthStreetModel.f_keptStreet a), .int (S.O_BirthStreetModel.f_keptToday a), .int (S.O_BirthStreetModel.f_keptBirths a), .int (S.O_BirthStreetModel.f_keptDebts a), .int (S.O_BirthStreetModel.f_keptHeard a), va_rf (S.O_BirthStreetModel.f_keptAge a), va_rf (S.O_BirthStreetModel.f_keptBirthsOf a), va_rf (S.O_BirthStreetModel.f_keptThen a), va_rf (S.O_BirthStreetModel.f_keptMuch a), va_rf (S.O_BirthStreetModel.f_keptNumber a), va_rf (S.O_BirthStreetModel.f_keptHouse a), va_rf (S.O_BirthStreetModel.f_keptHeardNumber a), .long (S.O_BirthStreetModel.f_h a)])) b = wPF cyB cyI { S with O_BirthStreetModel := { S.O_BirthStreetModel with f_seedNow := va_up S.O_BirthStreetModel.f_seedNow a v } } b := by by_cases hb : b = a <;> first | (simp only [wPF, va_up_ne _ _ hb]; done) | (simp only [wPF, va_up, if_neg hb]; done) | simp [wPF, va_re, va_up, va_rf, hb, h]
theorem wPu_O_BirthStreetModel_f_seedNow (cyB : ClassId) (cyI : ClassId) (X : va_W) (S : wPS) {A : Nat → Prop} {a k : Nat} (hD : va_D A (X ++ va_pl S.L (wPF cyB cyI S))) (hL : a ∈ S.L) (h : S.K a = 3) (hk : (X ++ va_pl S.L (wPF cyB cyI S))[k]? = some (a, wPF cyB cyI S a)) (v : Int64) : (X ++ va_pl S.L (wPF cyB cyI S)).set k (a, .inr (3, [.int (S.O_BirthStreetModel.f_streets a), .int (S.O_BirthStreetModel.f_houses a), va_rf (S.O_BirthStreetModel.f_kindOf a), va_rf (S.O_BirthStreetModel.f_ageOf a), va_rf (S.O_BirthStreetModel.f_birthsOf a), va_rf (S.O_BirthStreetModel.f_ageThen a), .int (S.O_BirthStreetModel.f_today a), .int (S.O_BirthStreetModel.f_births a), .int (S.O_BirthStreetModel.f_debts a), va_rf (S.O_BirthStreetModel.f_debtMuch a), va_rf (S.O_BirthStreetModel.f_debtNumber a), .int (S.O_BirthStreetModel.f_heard a), va_rf (S.O_BirthStreetModel.f_heardHouse a), va_rf (S.O_BirthStreetModel.f_heardNumber a), .int (S.O_BirthStreetModel.f_pageLength a), va_rf (S.O_BirthStreetModel.f_page a), va_rf (S.O_BirthStreetModel.f_savedAge a), .long v, .int (S.O_BirthStreetModel.f_isKept a), .int (S.O_BirthStreetModel.f_keptStreet a), .int (S.O_BirthStreetModel.f_keptToday a), .int (S.O_BirthStreetModel.f_keptBirths a), .int (S.O_BirthStreetModel.f_keptDebts a), .int (S.O_BirthStreetModel.f_keptHeard a), va_rf (S.O_BirthStreetModel.f_keptAge a), va_rf (S.O_BirthStreetModel.f_keptBirthsOf a), va_rf (S.O_BirthStreetModel.f_keptThen a), va_rf (S.O_BirthStreetModel.f_keptMuch a), va_rf (S.O_BirthStreetModel.f_keptNumber a), va_rf (S.O_BirthStreetModel.f_keptHouse a), va_rf (S.O_BirthStreetModel.f_keptHeardNumber a), .long (S.O_BirthStreetModel.f_h a)])) = X ++ va_pl S.L (wPF cyB cyI { S with O_BirthStreetModel := { S.O_BirthStreetModel with f_seedNow := va_up S.O_BirthStreetModel.f_seedNow a v } }) := by
  rw [va_pl_set hD hL hk]
  exact congrArg (fun l => X ++ l) (va_pl_congr (wSt_O_BirthStreetModel_f_seedNow cyB cyI S h v))
theorem wSt_O_BirthStreetModel_f_isKept (cyB : ClassId) (cyI : ClassId) (S : wPS) {a : Nat} (h : S.K a = 3) (v : Int32) (b : Nat) : va_up (wPF cyB cyI S) a (.inr (3, [.int (S.O_BirthStreetModel.f_streets a), .int (S.O_BirthStreetModel.f_houses a), va_rf (S.O_BirthStreetModel.f_kindOf a), va_rf (S.O_BirthStreetModel.f_ageOf a), va_rf (S.O_BirthStreetModel.f_birthsOf a), va_rf (S.O_BirthStreetModel.f_ageThen a), .int (S.O_BirthStreetModel.f_today a), .int (S.O_BirthStreetModel.f_births a), .int (S.O_BirthStreetModel.f_debts a), va_rf (S.O_BirthStreetModel.f_debtMuch a), va_rf (S.O_BirthStreetModel.f_debtNumber a), .int (S.O_BirthStreetModel.f_heard a), va_rf (S.O_BirthStreetModel.f_heardHouse a), va_rf (S.O_BirthStreetModel.f_heardNumber a), .int (S.O_BirthStreetModel.f_pageLength a), va_rf (S.O_BirthStreetModel.f_page a), va_rf (S.O_BirthStreetModel.f_savedAge a), .long (S.O_BirthStreetModel.f_seedNow a), .int v, .int (S.O_BirthStreetModel.f_keptStreet a), .int (S.O_BirthStreetModel.f_keptToday a), .int (S.O_BirthStreetModel.f_keptBirths a), .int (S.O_BirthStreetModel.f_keptDebts a), .int (S.O_BirthStreetModel.f_keptHeard a), va_rf (S.O_BirthStreetModel.f_keptAge a), va_rf (S.O_BirthStreetModel.f_keptBirthsOf a), va_rf (S.O_BirthStreetModel.f_keptThen a), va_rf (S.O_BirthStreetModel.f_keptMuch a), va_rf (S.O_BirthStreetModel.f_keptNumber a), va_rf (S.O_BirthStreetModel.f_keptHouse a), va_rf (S.O_BirthStreetModel.f_keptHeardNumber a), .long (S.O_BirthStreetModel.f_h a)])) b = wPF cyB cyI { S with O_BirthStreetModel := { S.O_BirthStreetModel with f_isKept := va_up S.O_BirthStreetModel.f_isKept a v } } b := by by_cases hb : b = a <;> first | (simp only [wPF, va_up_ne _ _ hb]; done) | (simp only [wPF, va_up, if_neg hb]; done) | simp [wPF, va_re, va_up, va_rf, hb, h]
theorem wPu_O_BirthStreetModel_f_isKept (cyB : ClassId) (cyI : ClassId) (X : va_W) (S : wPS) {A : Nat → Prop} {a k : Nat} (hD : va_D A (X ++ va_pl S.L (wPF cyB cyI S))) (hL : a ∈ S.L) (h : S.K a = 3) (hk : (X ++ va_pl S.L (wPF cyB cyI S))[k]? = some (a, wPF cyB cyI S a)) (v : Int32) : (X ++ va_pl S.L (wPF cyB cyI S)).set k (a, .inr (3, [.int (S.O_BirthStreetModel.f_streets a), .int (S.O_BirthStreetModel.f_houses a), va_rf (S.O_BirthStreetModel.f_kindOf a), va_rf (S.O_BirthStreetModel.f_ageOf a), va_rf (S.O_BirthStreetModel.f_birthsOf a), va_rf (S.O_BirthStreetModel.f_ageThen a), .int (S.O_BirthStreetModel.f_today a), .int (S.O_BirthStreetModel.f_births a), .int (S.O_BirthStreetModel.f_debts a), va_rf (S.O_BirthStreetModel.f_debtMuch a), va_rf (S.O_BirthStreetModel.f_debtNumber a), .int (S.O_BirthStreetModel.f_heard a), va_rf (S.O_BirthStreetModel.f_heardHouse a), va_rf (S.O_BirthStreetModel.f_heardNumber a), .int (S.O_BirthStreetModel.f_pageLength a), va_rf (S.O_BirthStreetModel.f_page a), va_rf (S.O_BirthStreetModel.f_savedAge a), .long (S.O_BirthStreetModel.f_seedNow a), .int v, .int (S.O_BirthStreetModel.f_keptStreet a), .int (S.O_BirthStreetModel.f_keptToday a), .int (S.O_BirthStreetModel.f_keptBirths a), .int (S.O_BirthStreetModel.f_keptDebts a), .int (S.O_BirthStreetModel.f_keptHeard a), va_rf (S.O_BirthStreetModel.f_keptAge a), va_rf (S.O_BirthStreetModel.f_keptBirthsOf a), va_rf (S.O_BirthStreetModel.f_keptThen a), va_rf (S.O_BirthStreetModel.f_keptMuch a), va_rf (S.O_BirthStreetModel.f_keptNumber a), va_rf (S.O_BirthStreetModel.f_keptHouse a), va_rf (S.O_BirthStreetModel.f_keptHeardNumber a), .long (S.O_BirthStreetModel.f_h a)])) = X ++ va_pl S.L (wPF cyB cyI { S with O_BirthStreetModel := { S.O_BirthStreetModel with f_isKept := va_up S.O_BirthStreetModel.f_isKept a v } }) := by
  rw [va_pl_set hD hL hk]
  exact congrArg (fun l => X ++ l) (va_pl_congr (wSt_O_BirthStreetModel_f_isKept cyB cyI S h v))
theorem wSt_O_BirthStreetModel_f_keptStreet (cyB : ClassId) (cyI : ClassId) (S : wPS) {a : Nat} (h : S.K a = 3) (v : Int32) (b : Nat) : va_up (wPF cyB cyI S) a (.inr (3, [.int (S.O_BirthStreetModel.f_streets a), .int (S.O_BirthStreetModel.f_houses a), va_rf (S.O_BirthStreetModel.f_kindOf a), va_rf (S.O_BirthStreetModel.f_ageOf a), va_rf (S.O_BirthStreetModel.f_birthsOf a), va_rf (S.O_BirthStreetModel.f_ageThen a), .int (S.O_BirthStreetModel.f_today a), .int (S.O_BirthStreetModel.f_births a), .int (S.O_BirthStreetModel.f_debts a), va_rf (S.O_BirthStreetModel.f_debtMuch a), va_rf (S.O_BirthStreetModel.f_debtNumber a), .int (S.O_BirthStreetModel.f_heard a), va_rf (S.O_BirthStreetModel.f_heardHouse a), va_rf (S.O_BirthStreetModel.f_heardNumber a), .int (S.O_BirthStreetModel.f_pageLength a), va_rf (S.O_BirthStreetModel.f_page a), va_rf (S.O_BirthStreetModel.f_savedAge a), .long (S.O_BirthStreetModel.f_seedNow a), .int (S.O_BirthStreetModel.f_isKept a), .int v, .int (S.O_BirthStreetModel.f_keptToday a), .int (S.O_BirthStreetModel.f_keptBirths a), .int (S.O_BirthStreetModel.f_keptDebts a), .int (S.O_BirthStreetModel.f_keptHeard a), va_rf (S.O_BirthStreetModel.f_keptAge a), va_rf (S.O_BirthStreetModel.f_keptBirthsOf a), va_rf (S.O_BirthStreetModel.f_keptThen a), va_rf (S.O_BirthStreetModel.f_keptMuch a), va_rf (S.O_BirthStreetModel.f_keptNumber a), va_rf (S.O_BirthStreetModel.f_keptHouse a), va_rf (S.O_BirthStreetModel.f_keptHeardNumber a), .long (S.O_BirthStreetModel.f_h a)])) b = wPF cyB cyI { S with O_BirthStreetModel := { S.O_BirthStreetModel with f_keptStreet := va_up S.O_BirthStreetModel.f_keptStreet a v } } b := by by_cases hb : b = a <;> first | (simp only [wPF, va_up_ne _ _ hb]; done) | (simp only [wPF, va_up, if_neg hb]; done) | simp [wPF, va_re, va_up, va_rf, hb, h]
theorem wPu_O_BirthStreetModel_f_keptStreet (cyB : ClassId) (cyI : ClassId) (X : va_W) (S : wPS) {A : Nat → Prop} {a k : Nat} (hD : va_D A (X ++ va_pl S.L (wPF cyB cyI S))) (hL : a ∈ S.L) (h : S.K a = 3) (hk : (X ++ va_pl S.L (wPF cyB cyI S))[k]? = some (a, wPF cyB cyI S a)) (v : Int32) : (X ++ va_pl S.L (wPF cyB cyI S)).set k (a, .inr (3, [.int (S.O_BirthStreetModel.f_streets a), .int (S.O_BirthStreetModel.f_houses a), va_rf (S.O_BirthStreetModel.f_kindOf a), va_rf (S.O_BirthStreetModel.f_ageOf a), va_rf (S.O_BirthStreetModel.f_birthsOf a), va_rf (S.O_BirthStreetModel.f_ageThen a), .int (S.O_BirthStreetModel.f_today a), .int (S.O_BirthStreetModel.f_births a), .int (S.O_BirthStreetModel.f_debts a), va_rf (S.O_BirthStreetModel.f_debtMuch a), va_rf (S.O_BirthStreetModel.f_debtNumber a), .int (S.O_BirthStreetModel.f_heard a), va_rf (S.O_BirthStreetModel.f_heardHouse a), va_rf (S.O_BirthStreetModel.f_heardNumber a), .int (S.O_BirthStreetModel.f_pageLength a), va_rf (S.O_BirthStreetModel.f_page a), va_rf (S.O_BirthStreetModel.f_savedAge a), .long (S.O_BirthStreetModel.f_seedNow a), .int (S.O_BirthStreetModel.f_isKept a), .int v, .int (S.O_BirthStreetModel.f_keptToday a), .int (S.O_BirthStreetModel.f_keptBirths a), .int (S.O_BirthStreetModel.f_keptDebts a), .int (S.O_BirthStreetModel.f_keptHeard a), va_rf (S.O_BirthStreetModel.f_keptAge a), va_rf (S.O_BirthStreetModel.f_keptBirthsOf a), va_rf (S.O_BirthStreetModel.f_keptThen a), va_rf (S.O_BirthStreetModel.f_keptMuch a), va_rf (S.O_BirthStreetModel.f_keptNumber a), va_rf (S.O_BirthStreetModel.f_keptHouse a), va_rf (S.O_BirthStreetModel.f_keptHeardNumber a), .long (S.O_BirthStreetModel.f_h a)])) = X ++ va_pl S.L (wPF cyB cyI { S with O_BirthStreetModel := { S.O_BirthStreetModel with f_keptStreet := va_up S.O_BirthStreetModel.f_keptStreet a v } }) := by
  rw [va_pl_set hD hL hk]
  exact congrArg (fun l => X ++ l) (va_pl_congr (wSt_O_BirthStreetModel_f_keptStreet cyB cyI S h v))
theorem wSt_O_BirthStreetModel_f_keptToday (cyB : ClassId) (cyI : ClassId) (S : wPS) {a : Nat} (h : S.K a = 3) (v : Int32) (b : Nat) : va_up (wPF cyB cyI S) a (.inr (3, [.int (S.O_BirthStreetModel.f_streets a), .int (S.O_BirthStreetModel.f_houses a), va_rf (S.O_BirthStreetModel.f_kindOf a), va_rf (S.O_BirthStreetModel.f_ageOf a), va_rf (S.O_BirthStreetModel.f_birthsOf a), va_rf (S.O_BirthStreetModel.f_ageThen a), .int (S.O_BirthStreetModel.f_today a), .int (S.O_BirthStreetModel.f_births a), .int (S.O_BirthStreetModel.f_debts a), va_rf (S.O_BirthStreetModel.f_debtMuch a), va_rf (S.O_BirthStreetModel.f_debtNumber a), .int (S.O_BirthStreetModel.f_heard a), va_rf (S.O_BirthStreetModel.f_heardHouse a), va_rf (S.O_BirthStreetModel.f_heardNumber a), .int (S.O_BirthStreetModel.f_pageLength a), va_rf (S.O_BirthStreetModel.f_page a), va_rf (S.O_BirthStreetModel.f_savedAge a), .long (S.O_BirthStreetModel.f_seedNow a), .int (S.O_BirthStreetModel.f_isKept a), .int (S.O_BirthStreetModel.f_keptStreet a), .int v, .int (S.O_BirthStreetModel.f_keptBirths a), .int (S.O_BirthStreetModel.f_keptDebts a), .int (S.O_BirthStreetModel.f_keptHeard a), va_rf (S.O_BirthStreetModel.f_keptAge a), va_rf (S.O_BirthStreetModel.f_keptBirthsOf a), va_rf (S.O_BirthStreetModel.f_keptThen a), va_rf (S.O_BirthStreetModel.f_keptMuch a), va_rf (S.O_BirthStreetModel.f_keptNumber a), va_rf (S.O_BirthStreetModel.f_keptHouse a), va_rf (S.O_BirthStreetModel.f_keptHeardNumber a), .long (S.O_BirthStreetModel.f_h a)])) b = wPF cyB cyI { S with O_BirthStreetModel := { S.O_BirthStreetModel with f_keptToday := va_up S.O_BirthStreetModel.f_keptToday a v } } b := by by_cases hb : b = a <;> first | (simp only [wPF, va_up_ne _ _ hb]; done) | (simp only [wPF, va_up, if_neg hb]; done) | simp [wPF, va_re, va_up, va_rf, hb, h]
theorem wPu_O_BirthStreetModel_f_keptToday (cyB : ClassId) (cyI : ClassId) (X : va_W) (S : wPS) {A : Nat → Prop} {a k : Nat} (hD : va_D A (X ++ va_pl S.L (wPF cyB cyI S))) (hL : a ∈ S.L) (h : S.K a = 3) (hk : (X ++ va_pl S.L (wPF cyB cyI S))[k]? = some (a, wPF cyB cyI S a)) (v : Int32) : (X ++ va_pl S.L (wPF cyB cyI S)).set k (a, .inr (3, [.int (S.O_BirthStreetModel.f_streets a), .int (S.O_BirthStreetModel.f_houses a), va_rf (S.O_BirthStreetModel.f_kindOf a), va_rf (S.O_BirthStreetModel.f_ageOf a), va_rf (S.O_BirthStreetModel.f_birthsOf a), va_rf (S.O_BirthStreetModel.f_ageThen a), .int (S.O_BirthStreetModel.f_today a), .int (S.O_BirthStreetModel.f_births a), .int (S.O_BirthStreetModel.f_debts a), va_rf (S.O_BirthStreetModel.f_debtMuch a), va_rf (S.O_BirthStreetModel.f_debtNumber a), .int (S.O_BirthStreetModel.f_heard a), va_rf (S.O_BirthStreetModel.f_heardHouse a), va_rf (S.O_BirthStreetModel.f_heardNumber a), .int (S.O_BirthStreetModel.f_pageLength a), va_rf (S.O_BirthStreetModel.f_page a), va_rf (S.O_BirthStreetModel.f_savedAge a), .long (S.O_BirthStreetModel.f_seedNow a), .int (S.O_BirthStreetModel.f_isKept a), .int (S.O_BirthStreetModel.f_keptStreet a), .int v, .int (S.O_BirthStreetModel.f_keptBirths a), .int (S.O_BirthStreetModel.f_keptDebts a), .int (S.O_BirthStreetModel.f_keptHeard a), va_rf (S.O_BirthStreetModel.f_keptAge a), va_rf (S.O_BirthStreetModel.f_keptBirthsOf a), va_rf (S.O_BirthStreetModel.f_keptThen a), va_rf (S.O_BirthStreetModel.f_keptMuch a), va_rf (S.O_BirthStreetModel.f_keptNumber a), va_rf (S.O_BirthStreetModel.f_keptHouse a), va_rf (S.O_BirthStreetModel.f_keptHeardNumber a), .long (S.O_BirthStreetModel.f_h a)])) = X ++ va_pl S.L (wPF cyB cyI { S with O_BirthStreetModel := { S.O_BirthStreetModel with f_keptToday := va_up S.O_BirthStreetModel.f_keptToday a v } }) := by
  rw [va_pl_set hD hL hk]
  exact congrArg (fun l => X ++ l) (va_pl_congr (wSt_O_BirthStreetModel_f_keptToday cyB cyI S h v))
theorem wSt_O_BirthStreetModel_f_keptBirths (cyB : ClassId) (cyI : ClassId) (S : wPS) {a : Nat} (h : S.K a = 3) (v : Int32) (b : Nat) : va_up (wPF cyB cyI S) a (.inr (3, [.int (S.O_BirthStreetModel.f_streets a), .int (S.O_BirthStreetModel.f_houses a), va_rf (S.O_BirthStreetModel.f_kindOf a), va_rf (S.O_BirthStreetModel.f_ageOf a), va_rf (S.O_BirthStreetModel.f_birthsOf a), va_rf (S.O_BirthStreetModel.f_ageThen a), .int (S.O_BirthStreetModel.f_today a), .int (S.O_BirthStreetModel.f_births a), .int (S.O_BirthStreetModel.f_debts a), va_rf (S.O_BirthStreetModel.f_debtMuch a), va_rf (S.O_BirthStreetModel.f_debtNumber a), .int (S.O_BirthStreetModel.f_heard a), va_rf (S.O_BirthStreetModel.f_heardHouse a), va_rf (S.O_BirthStreetModel.f_heardNumber a), .int (S.O_BirthStreetModel.f_pageLength a), va_rf (S.O_BirthStreetModel.f_page a), va_rf (S.O_BirthStreetModel.f_savedAge a), .long (S.O_BirthStreetModel.f_seedNow a), .int (S.O_BirthStreetModel.f_isKept a), .int (S.O_BirthStreetModel.f_keptStreet a), .int (S.O_BirthStreetModel.f_keptToday a), .int v, .int (S.O_BirthStreetModel.f_keptDebts a), .int (S.O_BirthStreetModel.f_keptHeard a), va_rf (S.O_BirthStreetModel.f_keptAge a), va_rf (S.O_BirthStreetModel.f_keptBirthsOf a), va_rf (S.O_BirthStreetModel.f_keptThen a), va_rf (S.O_BirthStreetModel.f_keptMuch a), va_rf (S.O_BirthStreetModel.f_keptNumber a), va_rf (S.O_BirthStreetModel.f_keptHouse a), va_rf (S.O_BirthStreetModel.f_keptHeardNumber a), .long (S.O_BirthStreetModel.f_h a)])) b = wPF cyB cyI { S with O_BirthStreetModel := { S.O_BirthStreetModel with f_keptBirths := va_up S.O_BirthStreetModel.f_keptBirths a v } } b := by by_cases hb : b = a <;> first | (simp only [wPF, va_up_ne _ _ hb]; done) | (simp only [wPF, va_up, if_neg hb]; done) | simp [wPF, va_re, va_up, va_rf, hb, h]
theorem wPu_O_BirthStreetModel_f_keptBirths (cyB : ClassId) (cyI : ClassId) (X : va_W) (S : wPS) {A : Nat → Prop} {a k : Nat} (hD : va_D A (X ++ va_pl S.L (wPF cyB cyI S))) (hL : a ∈ S.L) (h : S.K a = 3) (hk : (X ++ va_pl S.L (wPF cyB cyI S))[k]? = some (a, wPF cyB cyI S a)) (v : Int32) : (X ++ va_pl S.L (wPF cyB cyI S)).set k (a, .inr (3, [.int (S.O_BirthStreetModel.f_streets a), .int (S.O_BirthStreetModel.f_houses a), va_rf (S.O_BirthStreetModel.f_kindOf a), va_rf (S.O_BirthStreetModel.f_ageOf a), va_rf (S.O_BirthStreetModel.f_birthsOf a), va_rf (S.O_BirthStreetModel.f_ageThen a), .int (S.O_BirthStreetModel.f_today a), .int (S.O_BirthStreetModel.f_births a), .int (S.O_BirthStreetModel.f_debts a), va_rf (S.O_BirthStreetModel.f_debtMuch a), va_rf (S.O_BirthStreetModel.f_debtNumber a), .int (S.O_BirthStreetModel.f_heard a), va_rf (S.O_BirthStreetModel.f_heardHouse a), va_rf (S.O_BirthStreetModel.f_heardNumber a), .int (S.O_BirthStreetModel.f_pageLength a), va_rf (S.O_BirthStreetModel.f_page a), va_rf (S.O_BirthStreetModel.f_savedAge a), .long (S.O_BirthStreetModel.f_seedNow a), .int (S.O_BirthStreetModel.f_isKept a), .int (S.O_BirthStreetModel.f_keptStreet a), .int (S.O_BirthStreetModel.f_keptToday a), .int v, .int (S.O_BirthStreetModel.f_keptDebts a), .int (S.O_BirthStreetModel.f_keptHeard a), va_rf (S.O_BirthStreetModel.f_keptAge a), va_rf (S.O_BirthStreetModel.f_keptBirthsOf a), va_rf (S.O_BirthStreetModel.f_keptThen a), va_rf (S.O_BirthStreetModel.f_keptMuch a), va_rf (S.O_BirthStreetModel.f_keptNumber a), va_rf (S.O_BirthStreetModel.f_keptHouse a), va_rf (S.O_BirthStreetModel.f_keptHeardNumber a), .long (S.O_BirthStreetModel.f_h a)])) = X ++ va_pl S.L (wPF cyB cyI { S with O_BirthStreetModel := { S.O_BirthStreetModel with f_keptBirths := va_up S.O_BirthStreetModel.f_keptBirths a v } }) := by
  rw [va_pl_set hD hL hk]
  exact congrArg (fun l => X ++ l) (va_pl_congr (wSt_O_BirthStreetModel_f_keptBirths cyB cyI S h v))
theorem wSt_O_BirthStreetModel_f_keptDebts (cyB : ClassId) (cyI : ClassId) (S : wPS) {a : Nat} (h : S.K a = 3) (v : Int32) (b : Nat) : va_up (wPF cyB cyI S) a (.inr (3, [.int (S.O_BirthStreetModel.f_streets a), .int (S.O_BirthStreetModel.f_houses a), va_rf (S.O_BirthStreetModel.f_kindOf a), va_rf (S.O_BirthStreetModel.f_ageOf a), va_rf (S.O_BirthStreetModel.f_birthsOf a), va_rf (S.O_BirthStreetModel.f_ageThen a), .int (S.O_BirthStreetModel.f_today a), .int (S.O_BirthStreetModel.f_births a), .int (S.O_BirthStreetModel.f_debts a), va_rf (S.O_BirthStreetModel.f_debtMuch a), va_rf (S.O_BirthStreetModel.f_debtNumber a), .int (S.O_BirthStreetModel.f_heard a), va_rf (S.O_BirthStreetModel.f_heardHouse a), va_rf (S.O_BirthStreetModel.f_heardNumber a), .int (S.O_BirthStreetModel.f_pageLength a), va_rf (S.O_BirthStreetModel.f_page a), va_rf (S.O_BirthStreetModel.f_savedAge a), .long (S.O_BirthStreetModel.f_seedNow a), .int (S.O_BirthStreetModel.f_isKept a), .int (S.O_BirthStreetModel.f_keptStreet a), .int (S.O_BirthStreetModel.f_keptToday a), .int (S.O_BirthStreetModel.f_keptBirths a), .int v, .int (S.O_BirthStreetModel.f_keptHeard a), va_rf (S.O_BirthStreetModel.f_keptAge a), va_rf (S.O_BirthStreetModel.f_keptBirthsOf a), va_rf (S.O_BirthStreetModel.f_keptThen a), va_rf (S.O_BirthStreetModel.f_keptMuch a), va_rf (S.O_BirthStreetModel.f_keptNumber a), va_rf (S.O_BirthStreetModel.f_keptHouse a), va_rf (S.O_BirthStreetModel.f_keptHeardNumber a), .long (S.O_BirthStreetModel.f_h a)])) b = wPF cyB cyI { S with O_BirthStreetModel := { S.O_BirthStreetModel with f_keptDebts := va_up S.O_BirthStreetModel.f_keptDebts a v } } b := by by_cases hb : b = a <;> first | (simp only [wPF, va_up_ne _ _ hb]; done) | (simp only [wPF, va_up, if_neg hb]; done) | simp [wPF, va_re, va_up, va_rf, hb, h]
theorem wPu_O_BirthStreetModel_f_keptDebts (cyB : ClassId) (cyI : ClassId) (X : va_W) (S : wPS) {A : Nat → Prop} {a k : Nat} (hD : va_D A (X ++ va_pl S.L (wPF cyB cyI S))) (hL : a ∈ S.L) (h : S.K a = 3) (hk : (X ++ va_pl S.L (wPF cyB cyI S))[k]? = some (a, wPF cyB cyI S a)) (v : Int32) : (X ++ va_pl S.L (wPF cyB cyI S)).set k (a, .inr (3, [.int (S.O_BirthStreetModel.f_streets a), .int (S.O_BirthStreetModel.f_houses a), va_rf (S.O_BirthStreetModel.f_kindOf a), va_rf (S.O_BirthStreetModel.f_ageOf a), va_rf (S.O_BirthStreetModel.f_birthsOf a), va_rf (S.O_BirthStreetModel.f_ageThen a), .int (S.O_BirthStreetModel.f_today a), .int (S.O_BirthStreetModel.f_births a), .int (S.O_BirthStreetModel.f_debts a), va_rf (S.O_BirthStreetModel.f_debtMuch a), va_rf (S.O_BirthStreetModel.f_debtNumber a), .int (S.O_BirthStreetModel.f_heard a), va_rf (S.O_BirthStreetModel.f_heardHouse a), va_rf (S.O_BirthStreetModel.f_heardNumber a), .int (S.O_BirthStreetModel.f_pageLength a), va_rf (S.O_BirthStreetModel.f_page a), va_rf (S.O_BirthStreetModel.f_savedAge a), .long (S.O_BirthStreetModel.f_seedNow a), .int (S.O_BirthStreetModel.f_isKept a), .int (S.O_BirthStreetModel.f_keptStreet a), .int (S.O_BirthStreetModel.f_keptToday a), .int (S.O_BirthStreetModel.f_keptBirths a), .int v, .int (S.O_BirthStreetModel.f_keptHeard a), va_rf (S.O_BirthStreetModel.f_keptAge a), va_rf (S.O_BirthStreetModel.f_keptBirthsOf a), va_rf (S.O_BirthStreetModel.f_keptThen a), va_rf (S.O_BirthStreetModel.f_keptMuch a), va_rf (S.O_BirthStreetModel.f_keptNumber a), va_rf (S.O_BirthStreetModel.f_keptHouse a), va_rf (S.O_BirthStreetModel.f_keptHeardNumber a), .long (S.O_BirthStreetModel.f_h a)])) = X ++ va_pl S.L (wPF cyB cyI { S with O_BirthStreetModel := { S.O_BirthStreetModel with f_keptDebts := va_up S.O_BirthStreetModel.f_keptDebts a v } }) := by
  rw [va_pl_set hD hL hk]
  exact congrArg (fun l => X ++ l) (va_pl_congr (wSt_O_BirthStreetModel_f_keptDebts cyB cyI S h v))
theorem wSt_O_BirthStreetModel_f_keptHeard (cyB : ClassId) (cyI : ClassId) (S : wPS) {a : Nat} (h : S.K a = 3) (v : Int32) (b : Nat) : va_up (wPF cyB cyI S) a (.inr (3, [.int (S.O_BirthStreetModel.f_streets a), .int (S.O_BirthStreetModel.f_houses a), va_rf (S.O_BirthStreetModel.f_kindOf a), va_rf (S.O_BirthStreetModel.f_ageOf a), va_rf (S.O_BirthStreetModel.f_birthsOf a), va_rf (S.O_BirthStreetModel.f_ageThen a), .int (S.O_BirthStreetModel.f_today a), .int (S.O_BirthStreetModel.f_births a), .int (S.O_BirthStreetModel.f_debts a), va_rf (S.O_BirthStreetModel.f_debtMuch a), va_rf (S.O_BirthStreetModel.f_debtNumber a), .int (S.O_BirthStreetModel.f_heard a), va_rf (S.O_BirthStreetModel.f_heardHouse a), va_rf (S.O_BirthStreetModel.f_heardNumber a), .int (S.O_BirthStreetModel.f_pageLength a), va_rf (S.O_BirthStreetModel.f_page a), va_rf (S.O_BirthStreetModel.f_savedAge a), .long (S.O_BirthStreetModel.f_seedNow a), .int (S.O_BirthStreetModel.f_isKept a), .int (S.O_BirthStreetModel.f_keptStreet a), .int (S.O_BirthStreetModel.f_keptToday a), .int (S.O_BirthStreetModel.f_keptBirths a), .int (S.O_BirthStreetModel.f_keptDebts a), .int v, va_rf (S.O_BirthStreetModel.f_keptAge a), va_rf (S.O_BirthStreetModel.f_keptBirthsOf a), va_rf (S.O_BirthStreetModel.f_keptThen a), va_rf (S.O_BirthStreetModel.f_keptMuch a), va_rf (S.O_BirthStreetModel.f_keptNumber a), va_rf (S.O_BirthStreetModel.f_keptHouse a), va_rf (S.O_BirthStreetModel.f_keptHeardNumber a), .long (S.O_BirthStreetModel.f_h a)])) b = wPF cyB cyI { S with O_BirthStreetModel := { S.O_BirthStreetModel with f_keptHeard := va_up S.O_BirthStreetModel.f_keptHeard a v } } b := by by_cases hb : b = a <;> first | (simp only [wPF, va_up_ne _ _ hb]; done) | (simp only [wPF, va_up, if_neg hb]; done) | simp [wPF, va_re, va_up, va_rf, hb, h]
theorem wPu_O_BirthStreetModel_f_keptHeard (cyB : ClassId) (cyI : ClassId) (X : va_W) (S : wPS) {A : Nat → Prop} {a k : Nat} (hD : va_D A (X ++ va_pl S.L (wPF cyB cyI S))) (hL : a ∈ S.L) (h : S.K a = 3) (hk : (X ++ va_pl S.L (wPF cyB cyI S))[k]? = some (a, wPF cyB cyI S a)) (v : Int32) : (X ++ va_pl S.L (wPF cyB cyI S)).set k (a, .inr (3, [.int (S.O_BirthStreetModel.f_streets a), .int (S.O_BirthStreetModel.f_houses a), va_rf (S.O_BirthStreetModel.f_kindOf a), va_rf (S.O_BirthStreetModel.f_ageOf a), va_rf (S.O_BirthStreetModel.f_birthsOf a), va_rf (S.O_BirthStreetModel.f_ageThen a), .int (S.O_BirthStreetModel.f_today a), .int (S.O_BirthStreetModel.f_births a), .int (S.O_BirthStreetModel.f_debts a), va_rf (S.O_BirthStreetModel.f_debtMuch a), va_rf (S.O_BirthStreetModel.f_debtNumber a), .int (S.O_BirthStreetModel.f_heard a), va_rf (S.O_BirthStreetModel.f_heardHouse a), va_rf (S.O_BirthStreetModel.f_heardNumber a), .int (S.O_BirthStreetModel.f_pageLength a), va_rf (S.O_BirthStreetModel.f_page a), va_rf (S.O_BirthStreetModel.f_savedAge a), .long (S.O_BirthStreetModel.f_seedNow a), .int (S.O_BirthStreetModel.f_isKept a), .int (S.O_BirthStreetModel.f_keptStreet a), .int (S.O_BirthStreetModel.f_keptToday a), .int (S.O_BirthStreetModel.f_keptBirths a), .int (S.O_BirthStreetModel.f_keptDebts a), .int v, va_rf (S.O_BirthStreetModel.f_keptAge a), va_rf (S.O_BirthStreetModel.f_keptBirthsOf a), va_rf (S.O_BirthStreetModel.f_keptThen a), va_rf (S.O_BirthStreetModel.f_keptMuch a), va_rf (S.O_BirthStreetModel.f_keptNumber a), va_rf (S.O_BirthStreetModel.f_keptHouse a), va_rf (S.O_BirthStreetModel.f_keptHeardNumber a), .long (S.O_BirthStreetModel.f_h a)])) = X ++ va_pl S.L (wPF cyB cyI { S with O_BirthStreetModel := { S.O_BirthStreetModel with f_keptHeard := va_up S.O_BirthStreetModel.f_keptHeard a v } }) := by
  rw [va_pl_set hD hL hk]
  exact congrArg (fun l => X ++ l) (va_pl_congr (wSt_O_BirthStreetModel_f_keptHeard cyB cyI S h v))
theorem wSt_O_BirthStreetModel_f_keptAge (cyB : ClassId) (cyI : ClassId) (S : wPS) {a : Nat} (h : S.K a = 3) (v : Option Nat) (b : Nat) : va_up (wPF cyB cyI S) a (.inr (3, [.int (S.O_BirthStreetModel.f_streets a), .int (S.O_BirthStreetModel.f_houses a), va_rf (S.O_BirthStreetModel.f_kindOf a), va_rf (S.O_BirthStreetModel.f_ageOf a), va_rf (S.O_BirthStreetModel.f_birthsOf a), va_rf (S.O_BirthStreetModel.f_ageThen a), .int (S.O_BirthStreetModel.f_today a), .int (S.O_BirthStreetModel.f_births a), .int (S.O_BirthStreetModel.f_debts a), va_rf (S.O_BirthStreetModel.f_debtMuch a), va_rf (S.O_BirthStreetModel.f_debtNumber a), .int (S.O_BirthStreetModel.f_heard a), va_rf (S.O_BirthStreetModel.f_heardHouse a), va_rf (S.O_BirthStreetModel.f_heardNumber a), .int (S.O_BirthStreetModel.f_pageLength a), va_rf (S.O_BirthStreetModel.f_page a), va_rf (S.O_BirthStreetModel.f_savedAge a), .long (S.O_BirthStreetModel.f_seedNow a), .int (S.O_BirthStreetModel.f_isKept a), .int (S.O_BirthStreetModel.f_keptStreet a), .int (S.O_BirthStreetModel.f_keptToday a), .int (S.O_BirthStreetModel.f_keptBirths a), .int (S.O_BirthStreetModel.f_keptDebts a), .int (S.O_BirthStreetModel.f_keptHeard a), va_rf v, va_rf (S.O_BirthStreetModel.f_keptBirthsOf a), va_rf (S.O_BirthStreetModel.f_keptThen a), va_rf (S.O_BirthStreetModel.f_keptMuch a), va_rf (S.O_BirthStreetModel.f_keptNumber a), va_rf (S.O_BirthStreetModel.f_keptHouse a), va_rf (S.O_BirthStreetModel.f_keptHeardNumber a), .long (S.O_BirthStreetModel.f_h a)])) b = wPF cyB cyI { S with O_BirthStreetModel := { S.O_BirthStreetModel with f_keptAge := va_up S.O_BirthStreetModel.f_keptAge a v } } b := by by_cases hb : b = a <;> first | (simp only [wPF, va_up_ne _ _ hb]; done) | (simp only [wPF, va_up, if_neg hb]; done) | simp [wPF, va_re, va_up, va_rf, hb, h]
theorem wPu_O_BirthStreetModel_f_keptAge (cyB : ClassId) (cyI : ClassId) (X : va_W) (S : wPS) {A : Nat → Prop} {a k : Nat} (hD : va_D A (X ++ va_pl S.L (wPF cyB cyI S))) (hL : a ∈ S.L) (h : S.K a = 3) (hk : (X ++ va_pl S.L (wPF cyB cyI S))[k]? = some (a, wPF cyB cyI S a)) (v : Option Nat) : (X ++ va_pl S.L (wPF cyB cyI S)).set k (a, .inr (3, [.int (S.O_BirthStreetModel.f_streets a), .int (S.O_BirthStreetModel.f_houses a), va_rf (S.O_BirthStreetModel.f_kindOf a), va_rf (S.O_BirthStreetModel.f_ageOf a), va_rf (S.O_BirthStreetModel.f_birthsOf a), va_rf (S.O_BirthStreetModel.f_ageThen a), .int (S.O_BirthStreetModel.f_today a), .int (S.O_BirthStreetModel.f_births a), .int (S.O_BirthStreetModel.f_debts a), va_rf (S.O_BirthStreetModel.f_debtMuch a), va_rf (S.O_BirthStreetModel.f_debtNumber a), .int (S.O_BirthStreetModel.f_heard a), va_rf (S.O_BirthStreetModel.f_heardHouse a), va_rf (S.O_BirthStreetModel.f_heardNumber a), .int (S.O_BirthStreetModel.f_pageLength a), va_rf (S.O_BirthStreetModel.f_page a), va_rf (S.O_BirthStreetModel.f_savedAge a), .long (S.O_BirthStreetModel.f_seedNow a), .int (S.O_BirthStreetModel.f_isKept a), .int (S.O_BirthStreetModel.f_keptStreet a), .int (S.O_BirthStreetModel.f_keptToday a), .int (S.O_BirthStreetModel.f_keptBirths a), .int (S.O_BirthStreetModel.f_keptDebts a), .int (S.O_BirthStreetModel.f_keptHeard a), va_rf v, va_rf (S.O_BirthStreetModel.f_keptBirthsOf a), va_rf (S.O_BirthStreetModel.f_keptThen a), va_rf (S.O_BirthStreetModel.f_keptMuch a), va_rf (S.O_BirthStreetModel.f_keptNumber a), va_rf (S.O_BirthStreetModel.f_keptHouse a), va_rf (S.O_BirthStreetModel.f_keptHeardNumber a), .long (S.O_BirthStreetModel.f_h a)])) = X ++ va_pl S.L (wPF cyB cyI { S with O_BirthStreetModel := { S.O_BirthStreetModel with f_keptAge := va_up S.O_BirthStreetModel.f_keptAge a v } }) := by
  rw [va_pl_set hD hL hk]
  exact congrArg (fun l => X ++ l) (va_pl_congr (wSt_O_BirthStreetModel_f_keptAge cyB cyI S h v))
theorem wSt_O_BirthStreetModel_f_keptBirthsOf (cyB : ClassId) (cyI : ClassId) (S : wPS) {a : Nat} (h : S.K a = 3) (v : Option Nat) (b : Nat) : va_up (wPF cyB cyI S) a (.inr (3, [.int (S.O_BirthStreetModel.f_streets a), .int (S.O_BirthStreetModel.f_houses a), va_rf (S.O_BirthStreetModel.f_kindOf a), va_rf (S.O_BirthStreetModel.f_ageOf a), va_rf (S.O_BirthStreetModel.f_birthsOf a), va_rf (S.O_BirthStreetModel.f_ageThen a), .int (S.O_BirthStreetModel.f_today a), .int (S.O_BirthStreetModel.f_births a), .int (S.O_BirthStreetModel.f_debts a), va_rf (S.O_BirthStreetModel.f_debtMuch a), va_rf (S.O_BirthStreetModel.f_debtNumber a), .int (S.O_BirthStreetModel.f_heard a), va_rf (S.O_BirthStreetModel.f_heardHouse a), va_rf (S.O_BirthStreetModel.f_heardNumber a), .int (S.O_BirthStreetModel.f_pageLength a), va_rf (S.O_BirthStreetModel.f_page a), va_rf (S.O_BirthStreetModel.f_savedAge a), .long (S.O_BirthStreetModel.f_seedNow a), .int (S.O_BirthStreetModel.f_isKept a), .int (S.O_BirthStreetModel.f_keptStreet a), .int (S.O_BirthStreetModel.f_keptToday a), .int (S.O_BirthStreetModel.f_keptBirths a), .int (S.O_BirthStreetModel.f_keptDebts a), .int (S.O_BirthStreetModel.f_keptHeard a), va_rf (S.O_BirthStreetModel.f_keptAge a), va_rf v, va_rf (S.O_BirthStreetModel.f_keptThen a), va_rf (S.O_BirthStreetModel.f_keptMuch a), va_rf (S.O_BirthStreetModel.f_keptNumber a), va_rf (S.O_BirthStreetModel.f_keptHouse a), va_rf (S.O_BirthStreetModel.f_keptHeardNumber a), .long (S.O_BirthStreetModel.f_h a)])) b = wPF cyB cyI { S with O_BirthStreetModel := { S.O_BirthStreetModel with f_keptBirthsOf := va_up S.O_BirthStreetModel.f_keptBirthsOf a v } } b := by by_cases hb : b = a <;> first | (simp only [wPF, va_up_ne _ _ hb]; done) | (simp only [wPF, va_up, if_neg hb]; done) | simp [wPF, va_re, va_up, va_rf, hb, h]
theorem wPu_O_BirthStreetModel_f_keptBirthsOf (cyB : ClassId) (cyI : ClassId) (X : va_W) (S : wPS) {A : Nat → Prop} {a k : Nat} (hD : va_D A (X ++ va_pl S.L (wPF cyB cyI S))) (hL : a ∈ S.L) (h : S.K a = 3) (hk : (X ++ va_pl S.L (wPF cyB cyI S))[k]? = some (a, wPF cyB cyI S a)) (v : Option Nat) : (X ++ va_pl S.L (wPF cyB cyI S)).set k (a, .inr (3, [.int (S.O_BirthStreetModel.f_streets a), .int (S.O_BirthStreetModel.f_houses a), va_rf (S.O_BirthStreetModel.f_kindOf a), va_rf (S.O_BirthStreetModel.f_ageOf a), va_rf (S.O_BirthStreetModel.f_birthsOf a), va_rf (S.O_BirthStreetModel.f_ageThen a), .int (S.O_BirthStreetModel.f_today a), .int (S.O_BirthStreetModel.f_births a), .int (S.O_BirthStreetModel.f_debts a), va_rf (S.O_BirthStreetModel.f_debtMuch a), va_rf (S.O_BirthStreetModel.f_debtNumber a), .int (S.O_BirthStreetModel.f_heard a), va_rf (S.O_BirthStreetModel.f_heardHouse a), va_rf (S.O_BirthStreetModel.f_heardNumber a), .int (S.O_BirthStreetModel.f_pageLength a), va_rf (S.O_BirthStreetModel.f_page a), va_rf (S.O_BirthStreetModel.f_savedAge a), .long (S.O_BirthStreetModel.f_seedNow a), .int (S.O_BirthStreetModel.f_isKept a), .int (S.O_BirthStreetModel.f_keptStreet a), .int (S.O_BirthStreetModel.f_keptToday a), .int (S.O_BirthStreetModel.f_keptBirths a), .int (S.O_BirthStreetModel.f_keptDebts a), .int (S.O_BirthStreetModel.f_keptHeard a), va_rf (S.O_BirthStreetModel.f_keptAge a), va_rf v, va_rf (S.O_BirthStreetModel.f_keptThen a), va_rf (S.O_BirthStreetModel.f_keptMuch a), va_rf (S.O_BirthStreetModel.f_keptNumber a), va_rf (S.O_BirthStreetModel.f_keptHouse a), va_rf (S.O_BirthStreetModel.f_keptHeardNumber a), .long (S.O_BirthStreetModel.f_h a)])) = X ++ va_pl S.L (wPF cyB cyI { S with O_BirthStreetModel := { S.O_BirthStreetModel with f_keptBirthsOf := va_up S.O_BirthStreetModel.f_keptBirthsOf a v } }) := by
  rw [va_pl_set hD hL hk]
  exact congrArg (fun l => X ++ l) (va_pl_congr (wSt_O_BirthStreetModel_f_keptBirthsOf cyB cyI S h v))
theorem wSt_O_BirthStreetModel_f_keptThen (cyB : ClassId) (cyI : ClassId) (S : wPS) {a : Nat} (h : S.K a = 3) (v : Option Nat) (b : Nat) : va_up (wPF cyB cyI S) a (.inr (3, [.int (S.O_BirthStreetModel.f_streets a), .int (S.O_BirthStreetModel.f_houses a), va_rf (S.O_BirthStreetModel.f_kindOf a), va_rf (S.O_BirthStreetModel.f_ageOf a), va_rf (S.O_BirthStreetModel.f_birthsOf a), va_rf (S.O_BirthStreetModel.f_ageThen a), .int (S.O_BirthStreetModel.f_today a), .int (S.O_BirthStreetModel.f_births a), .int (S.O_BirthStreetModel.f_debts a), va_rf (S.O_BirthStreetModel.f_debtMuch a), va_rf (S.O_BirthStreetModel.f_debtNumber a), .int (S.O_BirthStreetModel.f_heard a), va_rf (S.O_BirthStreetModel.f_heardHouse a), va_rf (S.O_BirthStreetModel.f_heardNumber a), .int (S.O_BirthStreetModel.f_pageLength a), va_rf (S.O_BirthStreetModel.f_page a), va_rf (S.O_BirthStreetModel.f_savedAge a), .long (S.O_BirthStreetModel.f_seedNow a), .int (S.O_BirthStreetModel.f_isKept a), .int (S.O_BirthStreetModel.f_keptStreet a), .int (S.O_BirthStreetModel.f_keptToday a), .int (S.O_BirthStreetModel.f_keptBirths a), .int (S.O_BirthStreetModel.f_keptDebts a), .int (S.O_BirthStreetModel.f_keptHeard a), va_rf (S.O_BirthStreetModel.f_keptAge a), va_rf (S.O_BirthStreetModel.f_keptBirthsOf a), va_rf v, va_rf (S.O_BirthStreetModel.f_keptMuch a), va_rf (S.O_BirthStreetModel.f_keptNumber a), va_rf (S.O_BirthStreetModel.f_keptHouse a), va_rf (S.O_BirthStreetModel.f_keptHeardNumber a), .long (S.O_BirthStreetModel.f_h a)])) b = wPF cyB cyI { S with O_BirthStreetModel := { S.O_BirthStreetModel with f_keptThen := va_up S.O_BirthStreetModel.f_keptThen a v } } b := by by_cases hb : b = a <;> first | (simp only [wPF, va_up_ne _ _ hb]; done) | (simp only [wPF, va_up, if_neg hb]; done) | simp [wPF, va_re, va_up, va_rf, hb, h]
theorem wPu_O_BirthStreetModel_f_keptThen (cyB : ClassId) (cyI : ClassId) (X : va_W) (S : wPS) {A : Nat → Prop} {a k : Nat} (hD : va_D A (X ++ va_pl S.L (wPF cyB cyI S))) (hL : a ∈ S.L) (h : S.K a = 3) (hk : (X ++ va_pl S.L (wPF cyB cyI S))[k]? = some (a, wPF cyB cyI S a)) (v : Option Nat) : (X ++ va_pl S.L (wPF cyB cyI S)).set k (a, .inr (3, [.int (S.O_BirthStreetModel.f_streets a), .int (S.O_BirthStreetModel.f_houses a), va_rf (S.O_BirthStreetModel.f_kindOf a), va_rf (S.O_BirthStreetModel.f_ageOf a), va_rf (S.O_BirthStreetModel.f_birthsOf a), va_rf (S.O_BirthStreetModel.f_ageThen a), .int (S.O_BirthStreetModel.f_today a), .int (S.O_BirthStreetModel.f_births a), .int (S.O_BirthStreetModel.f_debts a), va_rf (S.O_BirthStreetModel.f_debtMuch a), va_rf (S.O_BirthStreetModel.f_debtNumber a), .int (S.O_BirthStreetModel.f_heard a), va_rf (S.O_BirthStreetModel.f_heardHouse a), va_rf (S.O_BirthStreetModel.f_heardNumber a), .int (S.O_BirthStreetModel.f_pageLength a), va_rf (S.O_BirthStreetModel.f_page a), va_rf (S.O_BirthStreetModel.f_savedAge a), .long (S.O_BirthStreetModel.f_seedNow a), .int (S.O_BirthStreetModel.f_isKept a), .int (S.O_BirthStreetModel.f_keptStreet a), .int (S.O_BirthStreetModel.f_keptToday a), .int (S.O_BirthStreetModel.f_keptBirths a), .int (S.O_BirthStreetModel.f_keptDebts a), .int (S.O_BirthStreetModel.f_keptHeard a), va_rf (S.O_BirthStreetModel.f_keptAge a), va_rf (S.O_BirthStreetModel.f_keptBirthsOf a), va_rf v, va_rf (S.O_BirthStreetModel.f_keptMuch a), va_rf (S.O_BirthStreetModel.f_keptNumber a), va_rf (S.O_BirthStreetModel.f_keptHouse a), va_rf (S.O_BirthStreetModel.f_keptHeardNumber a), .long (S.O_BirthStreetModel.f_h a)])) = X ++ va_pl S.L (wPF cyB cyI { S with O_BirthStreetModel := { S.O_BirthStreetModel with f_keptThen := va_up S.O_BirthStreetModel.f_keptThen a v } }) := by
  rw [va_pl_set hD hL hk]
  exact congrArg (fun l => X ++ l) (va_pl_congr (wSt_O_BirthStreetModel_f_keptThen cyB cyI S h v))
theorem wSt_O_BirthStreetModel_f_keptMuch (cyB : ClassId) (cyI : ClassId) (S : wPS) {a : Nat} (h : S.K a = 3) (v : Option Nat) (b : Nat) : va_up (wPF cyB cyI S) a (.inr (3, [.int (S.O_BirthStreetModel.f_streets a), .int (S.O_BirthStreetModel.f_houses a), va_rf (S.O_BirthStreetModel.f_kindOf a), va_rf (S.O_BirthStreetModel.f_ageOf a), va_rf (S.O_BirthStreetModel.f_birthsOf a), va_rf (S.O_BirthStreetModel.f_ageThen a), .int (S.O_BirthStreetModel.f_today a), .int (S.O_BirthStreetModel.f_births a), .int (S.O_BirthStreetModel.f_debts a), va_rf (S.O_BirthStreetModel.f_debtMuch a), va_rf (S.O_BirthStreetModel.f_debtNumber a), .int (S.O_BirthStreetModel.f_heard a), va_rf (S.O_BirthStreetModel.f_heardHouse a), va_rf (S.O_BirthStreetModel.f_heardNumber a), .int (S.O_BirthStreetModel.f_pageLength a), va_rf (S.O_BirthStreetModel.f_page a), va_rf (S.O_BirthStreetModel.f_savedAge a), .long (S.O_BirthStreetModel.f_seedNow a), .int (S.O_BirthStreetModel.f_isKept a), .int (S.O_BirthStreetModel.f_keptStreet a), .int (S.O_BirthStreetModel.f_keptToday a), .int (S.O_BirthStreetModel.f_keptBirths a), .int (S.O_BirthStreetModel.f_keptDebts a), .int (S.O_BirthStreetModel.f_keptHeard a), va_rf (S.O_BirthStreetModel.f_keptAge a), va_rf (S.O_BirthStreetModel.f_keptBirthsOf a), va_rf (S.O_BirthStreetModel.f_keptThen a), va_rf v, va_rf (S.O_BirthStreetModel.f_keptNumber a), va_rf (S.O_BirthStreetModel.f_keptHouse a), va_rf (S.O_BirthStreetModel.f_keptHeardNumber a), .long (S.O_BirthStreetModel.f_h a)])) b = wPF cyB cyI { S with O_BirthStreetModel := { S.O_BirthStreetModel with f_keptMuch := va_up S.O_BirthStreetModel.f_keptMuch a v } } b := by by_cases hb : b = a <;> first | (simp only [wPF, va_up_ne _ _ hb]; done) | (simp only [wPF, va_up, if_neg hb]; done) | simp [wPF, va_re, va_up, va_rf, hb, h]
theorem wPu_O_BirthStreetModel_f_keptMuch (cyB : ClassId) (cyI : ClassId) (X : va_W) (S : wPS) {A : Nat → Prop} {a k : Nat} (hD : va_D A (X ++ va_pl S.L (wPF cyB cyI S))) (hL : a ∈ S.L) (h : S.K a = 3) (hk : (X ++ va_pl S.L (wPF cyB cyI S))[k]? = some (a, wPF cyB cyI S a)) (v : Option Nat) : (X ++ va_pl S.L (wPF cyB cyI S)).set k (a, .inr (3, [.int (S.O_BirthStreetModel.f_streets a), .int (S.O_BirthStreetModel.f_houses a), va_rf (S.O_BirthStreetModel.f_kindOf a), va_rf (S.O_BirthStreetModel.f_ageOf a), va_rf (S.O_BirthStreetModel.f_birthsOf a), va_rf (S.O_BirthStreetModel.f_ageThen a), .int (S.O_BirthStreetModel.f_today a), .int (S.O_BirthStreetModel.f_births a), .int (S.O_BirthStreetModel.f_debts a), va_rf (S.O_BirthStreetModel.f_debtMuch a), va_rf (S.O_BirthStreetModel.f_debtNumber a), .int (S.O_BirthStreetModel.f_heard a), va_rf (S.O_BirthStreetModel.f_heardHouse a), va_rf (S.O_BirthStreetModel.f_heardNumber a), .int (S.O_BirthStreetModel.f_pageLength a), va_rf (S.O_BirthStreetModel.f_page a), va_rf (S.O_BirthStreetModel.f_savedAge a), .long (S.O_BirthStreetModel.f_seedNow a), .int (S.O_BirthStreetModel.f_isKept a), .int (S.O_BirthStreetModel.f_keptStreet a), .int (S.O_BirthStreetModel.f_keptToday a), .int (S.O_BirthStreetModel.f_keptBirths a), .int (S.O_BirthStreetModel.f_keptDebts a), .int (S.O_BirthStreetModel.f_keptHeard a), va_rf (S.O_BirthStreetModel.f_keptAge a), va_rf (S.O_BirthStreetModel.f_keptBirthsOf a), va_rf (S.O_BirthStreetModel.f_keptThen a), va_rf v, va_rf (S.O_BirthStreetModel.f_keptNumber a), va_rf (S.O_BirthStreetModel.f_keptHouse a), va_rf (S.O_BirthStreetModel.f_keptHeardNumber a), .long (S.O_BirthStreetModel.f_h a)])) = X ++ va_pl S.L (wPF cyB cyI { S with O_BirthStreetModel := { S.O_BirthStreetModel with f_keptMuch := va_up S.O_BirthStreetModel.f_keptMuch a v } }) := by
  rw [va_pl_set hD hL hk]
  exact congrArg (fun l => X ++ l) (va_pl_congr (wSt_O_BirthStreetModel_f_keptMuch cyB cyI S h v))
theorem wSt_O_BirthStreetModel_f_keptNumber (cyB : ClassId) (cyI : ClassId) (S : wPS) {a : Nat} (h : S.K a = 3) (v : Option Nat) (b : Nat) : va_up (wPF cyB cyI S) a (.inr (3, [.int (S.O_BirthStreetModel.f_streets a), .int (S.O_BirthStreetModel.f_houses a), va_rf (S.O_BirthStreetModel.f_kindOf a), va_rf (S.O_BirthStreetModel.f_ageOf a), va_rf (S.O_BirthStreetModel.f_birthsOf a), va_rf (S.O_BirthStreetModel.f_ageThen a), .int (S.O_BirthStreetModel.f_today a), .int (S.O_BirthStreetModel.f_births a), .int (S.O_BirthStreetModel.f_debts a), va_rf (S.O_BirthStreetModel.f_debtMuch a), va_rf (S.O_BirthStreetModel.f_debtNumber a), .int (S.O_BirthStreetModel.f_heard a), va_rf (S.O_BirthStreetModel.f_heardHouse a), va_rf (S.O_BirthStreetModel.f_heardNumber a), .int (S.O_BirthStreetModel.f_pageLength a), va_rf (S.O_BirthStreetModel.f_page a), va_rf (S.O_BirthStreetModel.f_savedAge a), .long (S.O_BirthStreetModel.f_seedNow a), .int (S.O_BirthStreetModel.f_isKept a), .int (S.O_BirthStreetModel.f_keptStreet a), .int (S.O_BirthStreetModel.f_keptToday a), .int (S.O_BirthStreetModel.f_keptBirths a), .int (S.O_BirthStreetModel.f_keptDebts a), .int (S.O_BirthStreetModel.f_keptHeard a), va_rf (S.O_BirthStreetModel.f_keptAge a), va_rf (S.O_BirthStreetModel.f_keptBirthsOf a), va_rf (S.O_BirthStreetModel.f_keptThen a), va_rf (S.O_BirthStreetModel.f_keptMuch a), va_rf v, va_rf (S.O_BirthStreetModel.f_keptHouse a), va_rf (S.O_BirthStreetModel.f_keptHeardNumber a), .long (S.O_BirthStreetModel.f_h a)])) b = wPF cyB cyI { S with O_BirthStreetModel := { S.O_BirthStreetModel with f_keptNumber := va_up S.O_BirthStreetModel.f_keptNumber a v } } b := by by_cases hb : b = a <;> first | (simp only [wPF, va_up_ne _ _ hb]; done) | (simp only [wPF, va_up, if_neg hb]; done) | simp [wPF, va_re, va_up, va_rf, hb, h]
theorem wPu_O_BirthStreetModel_f_keptNumber (cyB : ClassId) (cyI : ClassId) (X : va_W) (S : wPS) {A : Nat → Prop} {a k : Nat} (hD : va_D A (X ++ va_pl S.L (wPF cyB cyI S))) (hL : a ∈ S.L) (h : S.K a = 3) (hk : (X ++ va_pl S.L (wPF cyB cyI S))[k]? = some (a, wPF cyB cyI S a)) (v : Option Nat) : (X ++ va_pl S.L (wPF cyB cyI S)).set k (a, .inr (3, [.int (S.O_BirthStreetModel.f_streets a), .int (S.O_BirthStreetModel.f_houses a), va_rf (S.O_BirthStreetModel.f_kindOf a), va_rf (S.O_BirthStreetModel.f_ageOf a), va_rf (S.O_BirthStreetModel.f_birthsOf a), va_rf (S.O_BirthStreetModel.f_ageThen a), .int (S.O_BirthStreetModel.f_today a), .int (S.O_BirthStreetModel.f_births a), .int (S.O_BirthStreetModel.f_debts a), va_rf (S.O_BirthStreetModel.f_debtMuch a), va_rf (S.O_BirthStreetModel.f_debtNumber a), .int (S.O_BirthStreetModel.f_heard a), va_rf (S.O_BirthStreetModel.f_heardHouse a), va_rf (S.O_BirthStreetModel.f_heardNumber a), .int (S.O_BirthStreetModel.f_pageLength a), va_rf (S.O_BirthStreetModel.f_page a), va_rf (S.O_BirthStreetModel.f_savedAge a), .long (S.O_BirthStreetModel.f_seedNow a), .int (S.O_BirthStreetModel.f_isKept a), .int (S.O_BirthStreetModel.f_keptStreet a), .int (S.O_BirthStreetModel.f_keptToday a), .int (S.O_BirthStreetModel.f_keptBirths a), .int (S.O_BirthStreetModel.f_keptDebts a), .int (S.O_BirthStreetModel.f_keptHeard a), va_rf (S.O_BirthStreetModel.f_keptAge a), va_rf (S.O_BirthStreetModel.f_keptBirthsOf a), va_rf (S.O_BirthStreetModel.f_keptThen a), va_rf (S.O_BirthStreetModel.f_keptMuch a), va_rf v, va_rf (S.O_BirthStreetModel.f_keptHouse a), va_rf (S.O_BirthStreetModel.f_keptHeardNumber a), .long (S.O_BirthStreetModel.f_h a)])) = X ++ va_pl S.L (wPF cyB cyI { S with O_BirthStreetModel := { S.O_BirthStreetModel with f_keptNumber := va_up S.O_BirthStreetModel.f_keptNumber a v } }) := by
  rw [va_pl_set hD hL hk]
  exact congrArg (fun l => X ++ l) (va_pl_congr (wSt_O_BirthStreetModel_f_keptNumber cyB cyI S h v))
theorem wSt_O_BirthStreetModel_f_keptHouse (cyB : ClassId) (cyI : ClassId) (S : wPS) {a : Nat} (h : S.K a = 3) (v : Option Nat) (b : Nat) : va_up (wPF cyB cyI S) a (.inr (3, [.int (S.O_BirthStreetModel.f_streets a), .int (S.O_BirthStreetModel.f_houses a), va_rf (S.O_BirthStreetModel.f_kindOf a), va_rf (S.O_BirthStreetModel.f_ageOf a), va_rf (S.O_BirthStreetModel.f_birthsOf a), va_rf (S.O_BirthStreetModel.f_ageThen a), .int (S.O_BirthStreetModel.f_today a), .int (S.O_BirthStreetModel.f_births a), .int (S.O_BirthStreetModel.f_debts a), va_rf (S.O_BirthStreetModel.f_debtMuch a), va_rf (S.O_BirthStreetModel.f_debtNumber a), .int (S.O_BirthStreetModel.f_heard a), va_rf (S.O_BirthStreetModel.f_heardHouse a), va_rf (S.O_BirthStreetModel.f_heardNumber a), .int (S.O_BirthStreetModel.f_pageLength a), va_rf (S.O_BirthStreetModel.f_page a), va_rf (S.O_BirthStreetModel.f_savedAge a), .long (S.O_BirthStreetModel.f_seedNow a), .int (S.O_BirthStreetModel.f_isKept a), .int (S.O_BirthStreetModel.f_keptStreet a), .int (S.O_BirthStreetModel.f_keptToday a), .int (S.O_BirthStreetModel.f_keptBirths a), .int (S.O_BirthStreetModel.f_keptDebts a), .int (S.O_BirthStreetModel.f_keptHeard a), va_rf (S.O_BirthStreetModel.f_keptAge a), va_rf (S.O_BirthStreetModel.f_keptBirthsOf a), va_rf (S.O_BirthStreetModel.f_keptThen a), va_rf (S.O_BirthStreetModel.f_keptMuch a), va_rf (S.O_BirthStreetModel.f_keptNumber a), va_rf v, va_rf (S.O_BirthStreetModel.f_keptHeardNumber a), .long (S.O_BirthStreetModel.f_h a)])) b = wPF cyB cyI { S with O_BirthStreetModel := { S.O_BirthStreetModel with f_keptHouse := va_up S.O_BirthStreetModel.f_keptHouse a v } } b := by by_cases hb : b = a <;> first | (simp only [wPF, va_up_ne _ _ hb]; done) | (simp only [wPF, va_up, if_neg hb]; done) | simp [wPF, va_re, va_up, va_rf, hb, h]
theorem wPu_O_BirthStreetModel_f_keptHouse (cyB : ClassId) (cyI : ClassId) (X : va_W) (S : wPS) {A : Nat → Prop} {a k : Nat} (hD : va_D A (X ++ va_pl S.L (wPF cyB cyI S))) (hL : a ∈ S.L) (h : S.K a = 3) (hk : (X ++ va_pl S.L (wPF cyB cyI S))[k]? = some (a, wPF cyB cyI S a)) (v : Option Nat) : (X ++ va_pl S.L (wPF cyB cyI S)).set k (a, .inr (3, [.int (S.O_BirthStreetModel.f_streets a), .int (S.O_BirthStreetModel.f_houses a), va_rf (S.O_BirthStreetModel.f_kindOf a), va_rf (S.O_BirthStreetModel.f_ageOf a), va_rf (S.O_BirthStreetModel.f_birthsOf a), va_rf (S.O_BirthStreetModel.f_ageThen a), .int (S.O_BirthStreetModel.f_today a), .int (S.O_BirthStreetModel.f_births a), .int (S.O_BirthStreetModel.f_debts a), va_rf (S.O_BirthStreetModel.f_debtMuch a), va_rf (S.O_BirthStreetModel.f_debtNumber a), .int (S.O_BirthStreetModel.f_heard a), va_rf (S.O_BirthStreetModel.f_heardHouse a), va_rf (S.O_BirthStreetModel.f_heardNumber a), .int (S.O_BirthStreetModel.f_pageLength a), va_rf (S.O_BirthStreetModel.f_page a), va_rf (S.O_BirthStreetModel.f_savedAge a), .long (S.O_BirthStreetModel.f_seedNow a), .int (S.O_BirthStreetModel.f_isKept a), .int (S.O_BirthStreetModel.f_keptStreet a), .int (S.O_BirthStreetModel.f_keptToday a), .int (S.O_BirthStreetModel.f_keptBirths a), .int (S.O_BirthStreetModel.f_keptDebts a), .int (S.O_BirthStreetModel.f_keptHeard a), va_rf (S.O_BirthStreetModel.f_keptAge a), va_rf (S.O_BirthStreetModel.f_keptBirthsOf a), va_rf (S.O_BirthStreetModel.f_keptThen a), va_rf (S.O_BirthStreetModel.f_keptMuch a), va_rf (S.O_BirthStreetModel.f_keptNumber a), va_rf v, va_rf (S.O_BirthStreetModel.f_keptHeardNumber a), .long (S.O_BirthStreetModel.f_h a)])) = X ++ va_pl S.L (wPF cyB cyI { S with O_BirthStreetModel := { S.O_BirthStreetModel with f_keptHouse := va_up S.O_BirthStreetModel.f_keptHouse a v } }) := by
  rw [va_pl_set hD hL hk]
  exact congrArg (fun l => X ++ l) (va_pl_congr (wSt_O_BirthStreetModel_f_keptHouse cyB cyI S h v))
theorem wSt_O_BirthStreetModel_f_keptHeardNumber (cyB : ClassId) (cyI : ClassId) (S : wPS) {a : Nat} (h : S.K a = 3) (v : Option Nat) (b : Nat) : va_up (wPF cyB cyI S) a (.inr (3, [.int (S.O_BirthStreetModel.f_streets a), .int (S.O_BirthStreetModel.f_houses a), va_rf (S.O_BirthStreetModel.f_kindOf a), va_rf (S.O_BirthStreetModel.f_ageOf a), va_rf (S.O_BirthStreetModel.f_birthsOf a), va_rf (S.O_BirthStreetModel.f_ageThen a), .int (S.O_BirthStreetModel.f_today a), .int (S.O_BirthStreetModel.f_births a), .int (S.O_BirthStreetModel.f_debts a), va_rf (S.O_BirthStreetModel.f_debtMuch a), va_rf (S.O_BirthStreetModel.f_debtNumber a), .int (S.O_BirthStreetModel.f_heard a), va_rf (S.O_BirthStreetModel.f_heardHouse a), va_rf (S.O_BirthStreetModel.f_heardNumber a), .int (S.O_BirthStreetModel.f_pageLength a), va_rf (S.O_BirthStreetModel.f_page a), va_rf (S.O_BirthStreetModel.f_savedAge a), .long (S.O_BirthStreetModel.f_seedNow a), .int (S.O_BirthStreetModel.f_isKept a), .int (S.O_BirthStreetModel.f_keptStreet a), .int (S.O_BirthStreetModel.f_keptToday a), .int (S.O_BirthStreetModel.f_keptBirths a), .int (S.O_BirthStreetModel.f_keptDebts a), .int (S.O_BirthStreetModel.f_keptHeard a), va_rf (S.O_BirthStreetModel.f_keptAge a), va_rf (S.O_BirthStreetModel.f_keptBirthsOf a), va_rf (S.O_BirthStreetModel.f_keptThen a), va_rf (S.O_BirthStreetModel.f_keptMuch a), va_rf (S.O_BirthStreetModel.f_keptNumber a), va_rf (S.O_BirthStreetModel.f_keptHouse a), va_rf v, .long (S.O_BirthStreetModel.f_h a)])) b = wPF cyB cyI { S with O_BirthStreetModel := { S.O_BirthStreetModel with f_keptHeardNumber := va_up S.O_BirthStreetModel.f_keptHeardNumber a v } } b := by by_cases hb : b = a <;> first | (simp only [wPF, va_up_ne _ _ hb]; done) | (simp only [wPF, va_up, if_neg hb]; done) | simp [wPF, va_re, va_up, va_rf, hb, h]
theorem wPu_O_BirthStreetModel_f_keptHeardNumber (cyB : ClassId) (cyI : ClassId) (X : va_W) (S : wPS) {A : Nat → Prop} {a k : Nat} (hD : va_D A (X ++ va_pl S.L (wPF cyB cyI S))) (hL : a ∈ S.L) (h : S.K a = 3) (hk : (X ++ va_pl S.L (wPF cyB cyI S))[k]? = some (a, wPF cyB cyI S a)) (v : Option Nat) : (X ++ va_pl S.L (wPF cyB cyI S)).set k (a, .inr (3, [.int (S.O_BirthStreetModel.f_streets a), .int (S.O_BirthStreetModel.f_houses a), va_rf (S.O_BirthStreetModel.f_kindOf a), va_rf (S.O_BirthStreetModel.f_ageOf a), va_rf (S.O_BirthStreetModel.f_birthsOf a), va_rf (S.O_BirthStreetModel.f_ageThen a), .int (S.O_BirthStreetModel.f_today a), .int (S.O_BirthStreetModel.f_births a), .int (S.O_BirthStreetModel.f_debts a), va_rf (S.O_BirthStreetModel.f_debtMuch a), va_rf (S.O_BirthStreetModel.f_debtNumber a), .int (S.O_BirthStreetModel.f_heard a), va_rf (S.O_BirthStreetModel.f_heardHouse a), va_rf (S.O_BirthStreetModel.f_heardNumber a), .int (S.O_BirthStreetModel.f_pageLength a), va_rf (S.O_BirthStreetModel.f_page a), va_rf (S.O_BirthStreetModel.f_savedAge a), .long (S.O_BirthStreetModel.f_seedNow a), .int (S.O_BirthStreetModel.f_isKept a), .int (S.O_BirthStreetModel.f_keptStreet a), .int (S.O_BirthStreetModel.f_keptToday a), .int (S.O_BirthStreetModel.f_keptBirths a), .int (S.O_BirthStreetModel.f_keptDebts a), .int (S.O_BirthStreetModel.f_keptHeard a), va_rf (S.O_BirthStreetModel.f_keptAge a), va_rf (S.O_BirthStreetModel.f_keptBirthsOf a), va_rf (S.O_BirthStreetModel.f_keptThen a), va_rf (S.O_BirthStreetModel.f_keptMuch a), va_rf (S.O_BirthStreetModel.f_keptNumber a), va_rf (S.O_BirthStreetModel.f_keptHouse a), va_rf v, .long (S.O_BirthStreetModel.f_h a)])) = X ++ va_pl S.L (wPF cyB cyI { S with O_BirthStreetModel := { S.O_BirthStreetModel with f_keptHeardNumber := va_up S.O_BirthStreetModel.f_keptHeardNumber a v } }) := by
  rw [va_pl_set hD hL hk]
  exact congrArg (fun l => X ++ l) (va_pl_congr (wSt_O_BirthStreetModel_f_keptHeardNumber cyB cyI S h v))
theorem wSt_O_BirthStreetModel_f_h (cyB : ClassId) (cyI : ClassId) (S : wPS) {a : Nat} (h : S.K a = 3) (v : Int64) (b : Nat) : va_up (wPF cyB cyI S) a (.inr (3, [.int (S.O_BirthStreetModel.f_streets a), .int (S.O_BirthStreetModel.f_houses a), va_rf (S.O_BirthStreetModel.f_kindOf a), va_rf (S.O_BirthStreetModel.f_ageOf a), va_rf (S.O_BirthStreetModel.f_birthsOf a), va_rf (S.O_BirthStreetModel.f_ageThen a), .int (S.O_BirthStreetModel.f_today a), .int (S.O_BirthStreetModel.f_births a), .int (S.O_BirthStreetModel.f_debts a), va_rf (S.O_BirthStreetModel.f_debtMuch a), va_rf (S.O_BirthStreetModel.f_debtNumber a), .int (S.O_BirthStreetModel.f_heard a), va_rf (S.O_BirthStreetModel.f_heardHouse a), va_rf (S.O_BirthStreetModel.f_heardNumber a), .int (S.O_BirthStreetModel.f_pageLength a), va_rf (S.O_BirthStreetModel.f_page a), va_rf (S.O_BirthStreetModel.f_savedAge a), .long (S.O_BirthStreetModel.f_seedNow a), .int (S.O_BirthStreetModel.f_isKept a), .int (S.O_BirthStreetModel.f_keptStreet a), .int (S.O_BirthStreetModel.f_keptToday a), .int (S.O_BirthStreetModel.f_keptBirths a), .int (S.O_BirthStreetModel.f_keptDebts a), .int (S.O_BirthStreetModel.f_keptHeard a), va_rf (S.O_BirthStreetModel.f_keptAge a), va_rf (S.O_BirthStreetModel.f_keptBirthsOf a), va_rf (S.O_BirthStreetModel.f_keptThen a), va_rf (S.O_BirthStreetModel.f_keptMuch a), va_rf (S.O_BirthStreetModel.f_keptNumber a), va_rf (S.O_BirthStreetModel.f_keptHouse a), va_rf (S.O_BirthStreetModel.f_keptHeardNumber a), .long v])) b = wPF cyB cyI { S with O_BirthStreetModel := { S.O_BirthStreetModel with f_h := va_up S.O_BirthStreetModel.f_h a v } } b := by by_cases hb : b = a <;> first | (simp only [wPF, va_up_ne _ _ hb]; done) | (simp only [wPF, va_up, if_neg hb]; done) | simp [wPF, va_re, va_up, va_rf, hb, h]
theorem wPu_O_BirthStreetModel_f_h (cyB : ClassId) (cyI : ClassId) (X : va_W) (S : wPS) {A : Nat → Prop} {a k : Nat} (hD : va_D A (X ++ va_pl S.L (wPF cyB cyI S))) (hL : a ∈ S.L) (h : S.K a = 3) (hk : (X ++ va_pl S.L (wPF cyB cyI S))[k]? = some (a, wPF cyB cyI S a)) (v : Int64) : (X ++ va_pl S.L (wPF cyB cyI S)).set k (a, .inr (3, [.int (S.O_BirthStreetModel.f_streets a), .int (S.O_BirthStreetModel.f_houses a), va_rf (S.O_BirthStreetModel.f_kindOf a), va_rf (S.O_BirthStreetModel.f_ageOf a), va_rf (S.O_BirthStreetModel.f_birthsOf a), va_rf (S.O_BirthStreetModel.f_ageThen a), .int (S.O_BirthStreetModel.f_today a), .int (S.O_BirthStreetModel.f_births a), .int (S.O_BirthStreetModel.f_debts a), va_rf (S.O_BirthStreetModel.f_debtMuch a), va_rf (S.O_BirthStreetModel.f_debtNumber a), .int (S.O_BirthStreetModel.f_heard a), va_rf (S.O_BirthStreetModel.f_heardHouse a), va_rf (S.O_BirthStreetModel.f_heardNumber a), .int (S.O_BirthStreetModel.f_pageLength a), va_rf (S.O_BirthStreetModel.f_page a), va_rf (S.O_BirthStreetModel.f_savedAge a), .long (S.O_BirthStreetModel.f_seedNow a), .int (S.O_BirthStreetModel.f_isKept a), .int (S.O_BirthStreetModel.f_keptStreet a), .int (S.O_BirthStreetModel.f_keptToday a), .int (S.O_BirthStreetModel.f_keptBirths a), .int (S.O_BirthStreetModel.f_keptDebts a), .int (S.O_BirthStreetModel.f_keptHeard a), va_rf (S.O_BirthStreetModel.f_keptAge a), va_rf (S.O_BirthStreetModel.f_keptBirthsOf a), va_rf (S.O_BirthStreetModel.f_keptThen a), va_rf (S.O_BirthStreetModel.f_keptMuch a), va_rf (S.O_BirthStreetModel.f_keptNumber a), va_rf (S.O_BirthStreetModel.f_keptHouse a), va_rf (S.O_BirthStreetModel.f_keptHeardNumber a), .long v])) = X ++ va_pl S.L (wPF cyB cyI { S with O_BirthStreetModel := { S.O_BirthStreetModel with f_h := va_up S.O_BirthStreetModel.f_h a v } }) := by
  rw [va_pl_set hD hL hk]
  exact congrArg (fun l => X ++ l) (va_pl_congr (wSt_O_BirthStreetModel_f_h cyB cyI S h v))
theorem wNw_O_BirthStreetModel (cyB : ClassId) (cyI : ClassId) (S : wPS) (a b : Nat) : va_up (wPF cyB cyI S) a (.inr (3, [.int 0, .int 0, .null, .null, .null, .null, .int 0, .int 0, .int 0, .null, .null, .int 0, .null, .null, .int 0, .null, .null, .long 0, .int 0, .int 0, .int 0, .int 0, .int 0, .int 0, .null, .null, .null, .null, .null, .null, .null, .long 0])) b = wPF cyB cyI { S with L := S.L ++ [a], K := va_up S.K a 3, O_BirthStreetModel := { f_streets := va_up S.O_BirthStreetModel.f_streets a 0, f_houses := va_up S.O_BirthStreetModel.f_houses a 0, f_kindOf := va_up S.O_BirthStreetModel.f_kindOf a none, f_ageOf := va_up S.O_BirthStreetModel.f_ageOf a none, f_birthsOf := va_up S.O_BirthStreetModel.f_birthsOf a none, f_ageThen := va_up S.O_BirthStreetModel.f_ageThen a none, f_today := va_up S.O_BirthStreetModel.f_today a 0, f_births := va_up S.O_BirthStreetModel.f_births a 0, f_debts := va_up S.O_BirthStreetModel.f_debts a 0, f_debtMuch := va_up S.O_BirthStreetModel.f_debtMuch a none, f_debtNumber := va_up S.O_BirthStreetModel.f_debtNumber a none, f_heard := va_up S.O_BirthStreetModel.f_heard a 0, f_heardHouse := va_up S.O_BirthStreetModel.f_heardHouse a none, f_heardNumber := va_up S.O_BirthStreetModel.f_heardNumber a none, f_pageLength := va_up S.O_BirthStreetModel.f_pageLength a 0, f_page := va_up S.O_BirthStreetModel.f_page a none, f_savedAge := va_up S.O_BirthStreetModel.f_savedAge a none, f_seedNow := va_up S.O_BirthStreetModel.f_seedNow a 0, f_isKept := va_up S.O_BirthStreetModel.f_isKept a 0, f_keptStreet := va_up S.O_BirthStreetModel.f_keptStreet a 0, f_keptToday := va_up S.O_BirthStreetModel.f_keptToday a 0, f_keptBirths := va_up S.O_BirthStreetModel.f_keptBirths a 0, f_keptDebts := va_up S.O_BirthStreetModel.f_keptDebts a 0, f_keptHeard := va_up S.O_BirthStreetModel.f_keptHeard a 0, f_keptAge := va_up S.O_BirthStreetModel.f_keptAge a none, f_keptBirthsOf := va_up S.O_BirthStreetModel.f_keptBirthsOf a none, f_keptThen := va_up S.O_BirthStreetModel.f_keptThen a none, f_keptMuch := va_up S.O_BirthStreetModel.f_keptMuch a none, f_keptNumber := va_up S.O_BirthStreetModel.f_keptNumber a none, f_keptHouse := va_up S.O_BirthStreetModel.f_keptHouse a none, f_keptHeardNumber := va_up S.O_BirthStreetModel.f_keptHeardNumber a none, f_h := va_up S.O_BirthStreetModel.f_h a 0 } } b := by by_cases hb : b = a <;> first | (simp only [wPF, va_up_ne _ _ hb]; done) | (simp only [wPF, va_up, if_neg hb]; done) | simp [wPF, va_re, va_up, va_rf, hb]
theorem wPn_O_BirthStreetModel (cyB : ClassId) (cyI : ClassId) (X : va_W) (S : wPS) {a : Nat} (ha : a ∉ S.L) : (X ++ va_pl S.L (wPF cyB cyI S)) ++ [(a, .inr (3, [.int 0, .int 0, .null, .null, .null, .null, .int 0, .int 0, .int 0, .null, .null, .int 0, .null, .null, .int 0, .null, .null, .long 0, .int 0, .int 0, .int 0, .int 0, .int 0, .int 0, .null, .null, .null, .null, .null, .null, .null, .long 0]))] = X ++ va_pl (S.L ++ [a]) (wPF cyB cyI { S with L := S.L ++ [a], K := va_up S.K a 3, O_BirthStreetModel := { f_streets := va_up S.O_BirthStreetModel.f_streets a 0, f_houses := va_up S.O_BirthStreetModel.f_houses a 0, f_kindOf := va_up S.O_BirthStreetModel.f_kindOf a none, f_ageOf := va_up S.O_BirthStreetModel.f_ageOf a none, f_birthsOf := va_up S.O_BirthStreetModel.f_birthsOf a none, f_ageThen := va_up S.O_BirthStreetModel.f_ageThen a none, f_today := va_up S.O_BirthStreetModel.f_today a 0, f_births := va_up S.O_BirthStreetModel.f_births a 0, f_debts := va_up S.O_BirthStreetModel.f_debts a 0, f_debtMuch := va_up S.O_BirthStreetModel.f_debtMuch a none, f_debtNumber := va_up S.O_BirthStreetModel.f_debtNumber a none, f_heard := va_up S.O_BirthStreetModel.f_heard a 0, f_heardHouse := va_up S.O_BirthStreetModel.f_heardHouse a none, f_heardNumber := va_up S.O_BirthStreetModel.f_heardNumber a none, f_pageLength := va_up S.O_BirthStreetModel.f_pageLength a 0, f_page := va_up S.O_BirthStreetModel.f_page a none, f_savedAge := va_up S.O_BirthStreetModel.f_savedAge a none, f_seedNow := va_up S.O_BirthStreetModel.f_seedNow a 0, f_isKept := va_up S.O_BirthStreetModel.f_isKept a 0, f_keptStreet := va_up S.O_BirthStreetModel.f_keptStreet a 0, f_keptToday := va_up S.O_BirthStreetModel.f_keptToday a 0, f_keptBirths := va_up S.O_BirthStreetModel.f_keptBirths a 0, f_keptDebts := va_up S.O_BirthStreetModel.f_keptDebts a 0, f_keptHeard := va_up S.O_BirthStreetModel.f_keptHeard a 0, f_keptAge := va_up S.O_BirthStreetModel.f_keptAge a none, f_keptBirthsOf := va_up S.O_BirthStreetModel.f_keptBirthsOf a none, f_keptThen := va_up S.O_BirthStreetModel.f_keptThen a none, f_keptMuch := va_up S.O_BirthStreetModel.f_keptMuch a none, f_keptNumber := va_up S.O_BirthStreetModel.f_keptNumber a none, f_keptHouse := va_up S.O_BirthStreetModel.f_keptHouse a none, f_keptHeardNumber := va_up S.O_BirthStreetModel.f_keptHeardNumber a none, f_h := va_up S.O_BirthStreetModel.f_h a 0 } }) := by
  rw [List.append_assoc, va_pl_push ha]
  exact congrArg (fun l => X ++ l) (va_pl_congr (wNw_O_BirthStreetModel cyB cyI S a))
theorem wAt_R_B (cyB : ClassId) (cyI : ClassId) (S : wPS) {a : Nat} (h : S.K a = 4) : wPF cyB cyI S a = .inl (cyB, S.R_B.len a, .inl (S.R_B.row a)) := by simp [wPF, h]
theorem wGt_R_B (cyB : ClassId) (cyI : ClassId) (X : va_W) (S : wPS) {a : Nat} (hL : a ∈ S.L) (h : S.K a = 4) : ∃ k : Nat, (X ++ va_pl S.L (wPF cyB cyI S))[k]? = some (a, wPF cyB cyI S a) ∧ (X ++ va_pl S.L (wPF cyB cyI S))[k]? = some (a, .inl (cyB, S.R_B.len a, .inl (S.R_B.row a))) := by
  obtain ⟨k, hk⟩ := va_pl_get (X := X) (f := wPF cyB cyI S) hL
  exact ⟨k, hk, hk.trans (congrArg (fun e => some (a, e)) (wAt_R_B cyB cyI S h))⟩
theorem wSt_R_B_row (cyB : ClassId) (cyI : ClassId) (S : wPS) {a : Nat} (h : S.K a = 4) (v : Nat → Int32) (b : Nat) : va_up (wPF cyB cyI S) a (.inl (cyB, S.R_B.len a, .inl v)) b = wPF cyB cyI { S with R_B := { S.R_B with row := va_up S.R_B.row a v } } b := by by_cases hb : b = a <;> first | (simp only [wPF, va_up_ne _ _ hb]; done) | (simp only [wPF, va_up, if_neg hb]; done) | simp [wPF, va_re, va_up, va_rf, hb, h]
theorem wPu_R_B_row (cyB : ClassId) (cyI : ClassId) (X : va_W) (S : wPS) {A : Nat → Prop} {a k : Nat} (hD : va_D A (X ++ va_pl S.L (wPF cyB cyI S))) (hL : a ∈ S.L) (h : S.K a = 4) (hk : (X ++ va_pl S.L (wPF cyB cyI S))[k]? = some (a, wPF cyB cyI S a)) (v : Nat → Int32) : (X ++ va_pl S.L (wPF cyB cyI S)).set k (a, .inl (cyB, S.R_B.len a, .inl v)) = X ++ va_pl S.L (wPF cyB cyI { S with R_B := { S.R_B with row := va_up S.R_B.row a v } }) := by
  rw [va_pl_set hD hL hk]
  exact congrArg (fun l => X ++ l) (va_pl_congr (wSt_R_B_row cyB cyI S h v))
theorem wNw_R_B (cyB : ClassId) (cyI : ClassId) (S : wPS) (a : Nat) (z : Nat) (f : Nat → Int32) (b : Nat) : va_up (wPF cyB cyI S) a (.inl (cyB, z, .inl f)) b = wPF cyB cyI { S with L := S.L ++ [a], K := va_up S.K a 4, R_B := { len := va_up S.R_B.len a z, row := va_up S.R_B.row a f } } b := by by_cases hb : b = a <;> first | (simp only [wPF, va_up_ne _ _ hb]; done) | (simp only [wPF, va_up, if_neg hb]; done) | simp [wPF, va_re, va_up, va_rf, hb]
theorem wAt_R_I (cyB : ClassId) (cyI : ClassId) (S : wPS) {a : Nat} (h : S.K a = 5) : wPF cyB cyI S a = .inl (cyI, S.R_I.len a, .inl (S.R_I.row a)) := by simp [wPF, h]
theorem wGt_R_I (cyB : ClassId) (cyI : ClassId) (X : va_W) (S : wPS) {a : Nat} (hL : a ∈ S.L) (h : S.K a = 5) : ∃ k : Nat, (X ++ va_pl S.L (wPF cyB cyI S))[k]? = some (a, wPF cyB cyI S a) ∧ (X ++ va_pl S.L (wPF cyB cyI S))[k]? = some (a, .inl (cyI, S.R_I.len a, .inl (S.R_I.row a))) := by
  obtain ⟨k, hk⟩ := va_pl_get (X := X) (f := wPF cyB cyI S) hL
  exact ⟨k, hk, hk.trans (congrArg (fun e => some (a, e)) (wAt_R_I cyB cyI S h))⟩
theorem wSt_R_I_row (cyB : ClassId) (cyI : ClassId) (S : wPS) {a : Nat} (h : S.K a = 5) (v : Nat → Int32) (b : Nat) : va_up (wPF cyB cyI S) a (.inl (cyI, S.R_I.len a, .inl v)) b = wPF cyB cyI { S with R_I := { S.R_I with row := va_up S.R_I.row a v } } b := by by_cases hb : b = a <;> first | (simp only [wPF, va_up_ne _ _ hb]; done) | (simp only [wPF, va_up, if_neg hb]; done) | simp [wPF, va_re, va_up, va_rf, hb, h]
theorem wPu_R_I_row (cyB : ClassId) (cyI : ClassId) (X : va_W) (S : wPS) {A : Nat → Prop} {a k : Nat} (hD : va_D A (X ++ va_pl S.L (wPF cyB cyI S))) (hL : a ∈ S.L) (h : S.K a = 5) (hk : (X ++ va_pl S.L (wPF cyB cyI S))[k]? = some (a, wPF cyB cyI S a)) (v : Nat → Int32) : (X ++ va_pl S.L (wPF cyB cyI S)).set k (a, .inl (cyI, S.R_I.len a, .inl v)) = X ++ va_pl S.L (wPF cyB cyI { S with R_I := { S.R_I with row := va_up S.R_I.row a v } }) := by
  rw [va_pl_set hD hL hk]
  exact congrArg (fun l => X ++ l) (va_pl_congr (wSt_R_I_row cyB cyI S h v))
theorem wNw_R_I (cyB : ClassId) (cyI : ClassId) (S : wPS) (a : Nat) (z : Nat) (f : Nat → Int32) (b : Nat) : va_up (wPF cyB cyI S) a (.inl (cyI, z, .inl f)) b = wPF cyB cyI { S with L := S.L ++ [a], K := va_up S.K a 5, R_I := { len := va_up S.R_I.len a z, row := va_up S.R_I.row a f } } b := by by_cases hb : b = a <;> first | (simp only [wPF, va_up_ne _ _ hb]; done) | (simp only [wPF, va_up, if_neg hb]; done) | simp [wPF, va_re, va_up, va_rf, hb]
/-! ===== END printed: names ===== -/
end
