-- ===== PART A: goes FIRST, ahead of the names: the tables' words, and 'selects' of the private methods out of them =====
/-- a private method of a class that the tables say can be made, by its rows of tables_1 -/
def lw_okq (q : MethodName × Nat) : Prop := (q.1.cls ≠ "java/lang/invoke/MethodHandle" ∧ q.1.cls ≠ "java/lang/invoke/VarHandle") ∧ Cond.instantiable q.1.cls q.2 ∈ tables_1 ∧ Cond.privateMethod q.1 ∈ tables_1 ∧ Cond.instanceMethod q.1 ∈ tables_1
theorem lw_p0 : lw_okq (⟨"BirthStreet", "housesOnPage", "()I"⟩, 11) := ⟨⟨by decide +kernel, by decide +kernel⟩, List.mem_of_getElem? (i := 12) (by decide +kernel), List.mem_of_getElem? (i := 198) (by decide +kernel), List.mem_of_getElem? (i := 199) (by decide +kernel)⟩
theorem lw_p1 : lw_okq (⟨"BirthStreet", "isHouse", "(I)Z"⟩, 11) := ⟨⟨by decide +kernel, by decide +kernel⟩, List.mem_of_getElem? (i := 12) (by decide +kernel), List.mem_of_getElem? (i := 215) (by decide +kernel), List.mem_of_getElem? (i := 216) (by decide +kernel)⟩
theorem lw_p2 : lw_okq (⟨"BirthStreet", "numberNow", "(I)I"⟩, 11) := ⟨⟨by decide +kernel, by decide +kernel⟩, List.mem_of_getElem? (i := 12) (by decide +kernel), List.mem_of_getElem? (i := 219) (by decide +kernel), List.mem_of_getElem? (i := 220) (by decide +kernel)⟩
theorem lw_p3 : lw_okq (⟨"BirthStreet", "numberAt", "(LBirthStreet$Row;I)I"⟩, 11) := ⟨⟨by decide +kernel, by decide +kernel⟩, List.mem_of_getElem? (i := 12) (by decide +kernel), List.mem_of_getElem? (i := 223) (by decide +kernel), List.mem_of_getElem? (i := 224) (by decide +kernel)⟩
theorem lw_p4 : lw_okq (⟨"BirthStreet", "owedBy", "(I)I"⟩, 11) := ⟨⟨by decide +kernel, by decide +kernel⟩, List.mem_of_getElem? (i := 12) (by decide +kernel), List.mem_of_getElem? (i := 230) (by decide +kernel), List.mem_of_getElem? (i := 231) (by decide +kernel)⟩
theorem lw_p5 : lw_okq (⟨"BirthStreet", "houseWith", "(II)I"⟩, 11) := ⟨⟨by decide +kernel, by decide +kernel⟩, List.mem_of_getElem? (i := 12) (by decide +kernel), List.mem_of_getElem? (i := 234) (by decide +kernel), List.mem_of_getElem? (i := 235) (by decide +kernel)⟩
theorem lw_p6 : lw_okq (⟨"BirthStreet", "numberOn", "(II)I"⟩, 11) := ⟨⟨by decide +kernel, by decide +kernel⟩, List.mem_of_getElem? (i := 12) (by decide +kernel), List.mem_of_getElem? (i := 238) (by decide +kernel), List.mem_of_getElem? (i := 239) (by decide +kernel)⟩
theorem lw_p7 : lw_okq (⟨"BirthStreet", "turnInWalk", "(LBirthStreet$Row;I)I"⟩, 11) := ⟨⟨by decide +kernel, by decide +kernel⟩, List.mem_of_getElem? (i := 12) (by decide +kernel), List.mem_of_getElem? (i := 245) (by decide +kernel), List.mem_of_getElem? (i := 246) (by decide +kernel)⟩
theorem lw_p8 : lw_okq (⟨"BirthStreet", "bear", "(LBirthStreet$Row;I)V"⟩, 11) := ⟨⟨by decide +kernel, by decide +kernel⟩, List.mem_of_getElem? (i := 12) (by decide +kernel), List.mem_of_getElem? (i := 260) (by decide +kernel), List.mem_of_getElem? (i := 261) (by decide +kernel)⟩
theorem lw_p9 : lw_okq (⟨"BirthStreet", "lendsACradle", "(I)Z"⟩, 11) := ⟨⟨by decide +kernel, by decide +kernel⟩, List.mem_of_getElem? (i := 12) (by decide +kernel), List.mem_of_getElem? (i := 264) (by decide +kernel), List.mem_of_getElem? (i := 265) (by decide +kernel)⟩
theorem lw_p10 : lw_okq (⟨"BirthStreet", "growOlder", "(LBirthStreet$Row;)V"⟩, 11) := ⟨⟨by decide +kernel, by decide +kernel⟩, List.mem_of_getElem? (i := 12) (by decide +kernel), List.mem_of_getElem? (i := 278) (by decide +kernel), List.mem_of_getElem? (i := 279) (by decide +kernel)⟩
theorem lw_p11 : lw_okq (⟨"BirthStreet", "isDay", "(I)Z"⟩, 11) := ⟨⟨by decide +kernel, by decide +kernel⟩, List.mem_of_getElem? (i := 12) (by decide +kernel), List.mem_of_getElem? (i := 289) (by decide +kernel), List.mem_of_getElem? (i := 290) (by decide +kernel)⟩
theorem lw_p12 : lw_okq (⟨"BirthStreet", "lengthOfWalk", "(LBirthStreet$Row;)I"⟩, 11) := ⟨⟨by decide +kernel, by decide +kernel⟩, List.mem_of_getElem? (i := 12) (by decide +kernel), List.mem_of_getElem? (i := 301) (by decide +kernel), List.mem_of_getElem? (i := 302) (by decide +kernel)⟩
theorem lw_p13 : lw_okq (⟨"BirthStreet", "houseOfTurn", "(LBirthStreet$Row;I)I"⟩, 11) := ⟨⟨by decide +kernel, by decide +kernel⟩, List.mem_of_getElem? (i := 12) (by decide +kernel), List.mem_of_getElem? (i := 305) (by decide +kernel), List.mem_of_getElem? (i := 306) (by decide +kernel)⟩
theorem lw_p14 : lw_okq (⟨"BirthStreet", "cheapestSet", "(I)I"⟩, 11) := ⟨⟨by decide +kernel, by decide +kernel⟩, List.mem_of_getElem? (i := 12) (by decide +kernel), List.mem_of_getElem? (i := 324) (by decide +kernel), List.mem_of_getElem? (i := 325) (by decide +kernel)⟩
theorem lw_p15 : lw_okq (⟨"BirthStreet", "mayAllBear", "(I)Z"⟩, 11) := ⟨⟨by decide +kernel, by decide +kernel⟩, List.mem_of_getElem? (i := 12) (by decide +kernel), List.mem_of_getElem? (i := 334) (by decide +kernel), List.mem_of_getElem? (i := 335) (by decide +kernel)⟩
def lw_privs_1 : List (MethodName × Nat) := [(⟨"BirthStreet", "housesOnPage", "()I"⟩, 11), (⟨"BirthStreet", "isHouse", "(I)Z"⟩, 11), (⟨"BirthStreet", "numberNow", "(I)I"⟩, 11), (⟨"BirthStreet", "numberAt", "(LBirthStreet$Row;I)I"⟩, 11), (⟨"BirthStreet", "owedBy", "(I)I"⟩, 11), (⟨"BirthStreet", "houseWith", "(II)I"⟩, 11), (⟨"BirthStreet", "numberOn", "(II)I"⟩, 11), (⟨"BirthStreet", "turnInWalk", "(LBirthStreet$Row;I)I"⟩, 11), (⟨"BirthStreet", "bear", "(LBirthStreet$Row;I)V"⟩, 11), (⟨"BirthStreet", "lendsACradle", "(I)Z"⟩, 11), (⟨"BirthStreet", "growOlder", "(LBirthStreet$Row;)V"⟩, 11), (⟨"BirthStreet", "isDay", "(I)Z"⟩, 11), (⟨"BirthStreet", "lengthOfWalk", "(LBirthStreet$Row;)I"⟩, 11), (⟨"BirthStreet", "houseOfTurn", "(LBirthStreet$Row;I)I"⟩, 11), (⟨"BirthStreet", "cheapestSet", "(I)I"⟩, 11), (⟨"BirthStreet", "mayAllBear", "(I)Z"⟩, 11)]
theorem lw_r1 : ∀ q ∈ lw_privs_1, lw_okq q := List.forall_mem_cons.mpr ⟨lw_p0, List.forall_mem_cons.mpr ⟨lw_p1, List.forall_mem_cons.mpr ⟨lw_p2, List.forall_mem_cons.mpr ⟨lw_p3, List.forall_mem_cons.mpr ⟨lw_p4, List.forall_mem_cons.mpr ⟨lw_p5, List.forall_mem_cons.mpr ⟨lw_p6, List.forall_mem_cons.mpr ⟨lw_p7, List.forall_mem_cons.mpr ⟨lw_p8, List.forall_mem_cons.mpr ⟨lw_p9, List.forall_mem_cons.mpr ⟨lw_p10, List.forall_mem_cons.mpr ⟨lw_p11, List.forall_mem_cons.mpr ⟨lw_p12, List.forall_mem_cons.mpr ⟨lw_p13, List.forall_mem_cons.mpr ⟨lw_p14, List.forall_mem_cons.mpr ⟨lw_p15, fun _ h => absurd h List.not_mem_nil⟩⟩⟩⟩⟩⟩⟩⟩⟩⟩⟩⟩⟩⟩⟩⟩
theorem lw_p16 : lw_okq (⟨"BirthStreet", "numbersBy", "(I)I"⟩, 11) := ⟨⟨by decide +kernel, by decide +kernel⟩, List.mem_of_getElem? (i := 12) (by decide +kernel), List.mem_of_getElem? (i := 341) (by decide +kernel), List.mem_of_getElem? (i := 342) (by decide +kernel)⟩
theorem lw_p17 : lw_okq (⟨"BirthStreet", "allNumbers", "(LBirthStreet$Row;)I"⟩, 11) := ⟨⟨by decide +kernel, by decide +kernel⟩, List.mem_of_getElem? (i := 12) (by decide +kernel), List.mem_of_getElem? (i := 349) (by decide +kernel), List.mem_of_getElem? (i := 350) (by decide +kernel)⟩
theorem lw_p18 : lw_okq (⟨"BirthStreet", "canHaveBeen", "(I)Z"⟩, 11) := ⟨⟨by decide +kernel, by decide +kernel⟩, List.mem_of_getElem? (i := 12) (by decide +kernel), List.mem_of_getElem? (i := 369) (by decide +kernel), List.mem_of_getElem? (i := 370) (by decide +kernel)⟩
theorem lw_p19 : lw_okq (⟨"BirthStreet", "markPossibleDays", "()I"⟩, 11) := ⟨⟨by decide +kernel, by decide +kernel⟩, List.mem_of_getElem? (i := 12) (by decide +kernel), List.mem_of_getElem? (i := 377) (by decide +kernel), List.mem_of_getElem? (i := 378) (by decide +kernel)⟩
theorem lw_p20 : lw_okq (⟨"BirthStreet", "mostLeftBy", "(I)I"⟩, 11) := ⟨⟨by decide +kernel, by decide +kernel⟩, List.mem_of_getElem? (i := 12) (by decide +kernel), List.mem_of_getElem? (i := 381) (by decide +kernel), List.mem_of_getElem? (i := 382) (by decide +kernel)⟩
theorem lw_p21 : lw_okq (⟨"BirthStreet", "drawnHouse", "(I)I"⟩, 11) := ⟨⟨by decide +kernel, by decide +kernel⟩, List.mem_of_getElem? (i := 12) (by decide +kernel), List.mem_of_getElem? (i := 399) (by decide +kernel), List.mem_of_getElem? (i := 400) (by decide +kernel)⟩
theorem lw_p22 : lw_okq (⟨"BirthStreet", "bearIfMayBe", "(LBirthStreet$Row;I)V"⟩, 11) := ⟨⟨by decide +kernel, by decide +kernel⟩, List.mem_of_getElem? (i := 12) (by decide +kernel), List.mem_of_getElem? (i := 404) (by decide +kernel), List.mem_of_getElem? (i := 405) (by decide +kernel)⟩
theorem lw_p23 : lw_okq (⟨"BirthStreet", "unlikeNumbers", "()I"⟩, 11) := ⟨⟨by decide +kernel, by decide +kernel⟩, List.mem_of_getElem? (i := 12) (by decide +kernel), List.mem_of_getElem? (i := 425) (by decide +kernel), List.mem_of_getElem? (i := 426) (by decide +kernel)⟩
theorem lw_p24 : lw_okq (⟨"BirthStreet", "owedByAll", "()I"⟩, 11) := ⟨⟨by decide +kernel, by decide +kernel⟩, List.mem_of_getElem? (i := 12) (by decide +kernel), List.mem_of_getElem? (i := 429) (by decide +kernel), List.mem_of_getElem? (i := 430) (by decide +kernel)⟩
theorem lw_p25 : lw_okq (⟨"BirthStreet", "withHouse", "(JI)J"⟩, 11) := ⟨⟨by decide +kernel, by decide +kernel⟩, List.mem_of_getElem? (i := 12) (by decide +kernel), List.mem_of_getElem? (i := 438) (by decide +kernel), List.mem_of_getElem? (i := 439) (by decide +kernel)⟩
theorem lw_p26 : lw_okq (⟨"BirthStreetModel", "faultNow", "()I"⟩, 32) := ⟨⟨by decide +kernel, by decide +kernel⟩, List.mem_of_getElem? (i := 452) (by decide +kernel), List.mem_of_getElem? (i := 570) (by decide +kernel), List.mem_of_getElem? (i := 571) (by decide +kernel)⟩
theorem lw_p27 : lw_okq (⟨"BirthStreetModel", "isGood", "(I)Z"⟩, 32) := ⟨⟨by decide +kernel, by decide +kernel⟩, List.mem_of_getElem? (i := 452) (by decide +kernel), List.mem_of_getElem? (i := 574) (by decide +kernel), List.mem_of_getElem? (i := 575) (by decide +kernel)⟩
theorem lw_p28 : lw_okq (⟨"BirthStreetModel", "isHouse", "(I)Z"⟩, 32) := ⟨⟨by decide +kernel, by decide +kernel⟩, List.mem_of_getElem? (i := 452) (by decide +kernel), List.mem_of_getElem? (i := 589) (by decide +kernel), List.mem_of_getElem? (i := 590) (by decide +kernel)⟩
theorem lw_p29 : lw_okq (⟨"BirthStreetModel", "houseNow", "(II)I"⟩, 32) := ⟨⟨by decide +kernel, by decide +kernel⟩, List.mem_of_getElem? (i := 452) (by decide +kernel), List.mem_of_getElem? (i := 593) (by decide +kernel), List.mem_of_getElem? (i := 594) (by decide +kernel)⟩
theorem lw_p30 : lw_okq (⟨"BirthStreetModel", "number", "(I)I"⟩, 32) := ⟨⟨by decide +kernel, by decide +kernel⟩, List.mem_of_getElem? (i := 452) (by decide +kernel), List.mem_of_getElem? (i := 597) (by decide +kernel), List.mem_of_getElem? (i := 598) (by decide +kernel)⟩
theorem lw_p31 : lw_okq (⟨"BirthStreetModel", "numberBy", "(II)I"⟩, 32) := ⟨⟨by decide +kernel, by decide +kernel⟩, List.mem_of_getElem? (i := 452) (by decide +kernel), List.mem_of_getElem? (i := 601) (by decide +kernel), List.mem_of_getElem? (i := 602) (by decide +kernel)⟩
def lw_privs_2 : List (MethodName × Nat) := [(⟨"BirthStreet", "numbersBy", "(I)I"⟩, 11), (⟨"BirthStreet", "allNumbers", "(LBirthStreet$Row;)I"⟩, 11), (⟨"BirthStreet", "canHaveBeen", "(I)Z"⟩, 11), (⟨"BirthStreet", "markPossibleDays", "()I"⟩, 11), (⟨"BirthStreet", "mostLeftBy", "(I)I"⟩, 11), (⟨"BirthStreet", "drawnHouse", "(I)I"⟩, 11), (⟨"BirthStreet", "bearIfMayBe", "(LBirthStreet$Row;I)V"⟩, 11), (⟨"BirthStreet", "unlikeNumbers", "()I"⟩, 11), (⟨"BirthStreet", "owedByAll", "()I"⟩, 11), (⟨"BirthStreet", "withHouse", "(JI)J"⟩, 11), (⟨"BirthStreetModel", "faultNow", "()I"⟩, 32), (⟨"BirthStreetModel", "isGood", "(I)Z"⟩, 32), (⟨"BirthStreetModel", "isHouse", "(I)Z"⟩, 32), (⟨"BirthStreetModel", "houseNow", "(II)I"⟩, 32), (⟨"BirthStreetModel", "number", "(I)I"⟩, 32), (⟨"BirthStreetModel", "numberBy", "(II)I"⟩, 32)]
theorem lw_r2 : ∀ q ∈ lw_privs_2, lw_okq q := List.forall_mem_cons.mpr ⟨lw_p16, List.forall_mem_cons.mpr ⟨lw_p17, List.forall_mem_cons.mpr ⟨lw_p18, List.forall_mem_cons.mpr ⟨lw_p19, List.forall_mem_cons.mpr ⟨lw_p20, List.forall_mem_cons.mpr ⟨lw_p21, List.forall_mem_cons.mpr ⟨lw_p22, List.forall_mem_cons.mpr ⟨lw_p23, List.forall_mem_cons.mpr ⟨lw_p24, List.forall_mem_cons.mpr ⟨lw_p25, List.forall_mem_cons.mpr ⟨lw_p26, List.forall_mem_cons.mpr ⟨lw_p27, List.forall_mem_cons.mpr ⟨lw_p28, List.forall_mem_cons.mpr ⟨lw_p29, List.forall_mem_cons.mpr ⟨lw_p30, List.forall_mem_cons.mpr ⟨lw_p31, fun _ h => absurd h List.not_mem_nil⟩⟩⟩⟩⟩⟩⟩⟩⟩⟩⟩⟩⟩⟩⟩⟩
theorem lw_p32 : lw_okq (⟨"BirthStreetModel", "owes", "(I)I"⟩, 32) := ⟨⟨by decide +kernel, by decide +kernel⟩, List.mem_of_getElem? (i := 452) (by decide +kernel), List.mem_of_getElem? (i := 605) (by decide +kernel), List.mem_of_getElem? (i := 606) (by decide +kernel)⟩
theorem lw_p33 : lw_okq (⟨"BirthStreetModel", "houseOf", "(II)I"⟩, 32) := ⟨⟨by decide +kernel, by decide +kernel⟩, List.mem_of_getElem? (i := 452) (by decide +kernel), List.mem_of_getElem? (i := 609) (by decide +kernel), List.mem_of_getElem? (i := 610) (by decide +kernel)⟩
theorem lw_p34 : lw_okq (⟨"BirthStreetModel", "numberOn", "(II)I"⟩, 32) := ⟨⟨by decide +kernel, by decide +kernel⟩, List.mem_of_getElem? (i := 452) (by decide +kernel), List.mem_of_getElem? (i := 613) (by decide +kernel), List.mem_of_getElem? (i := 614) (by decide +kernel)⟩
theorem lw_p35 : lw_okq (⟨"BirthStreetModel", "orderOf", "(I)I"⟩, 32) := ⟨⟨by decide +kernel, by decide +kernel⟩, List.mem_of_getElem? (i := 452) (by decide +kernel), List.mem_of_getElem? (i := 617) (by decide +kernel), List.mem_of_getElem? (i := 618) (by decide +kernel)⟩
theorem lw_p36 : lw_okq (⟨"BirthStreetModel", "mayBirth", "(I)Z"⟩, 32) := ⟨⟨by decide +kernel, by decide +kernel⟩, List.mem_of_getElem? (i := 452) (by decide +kernel), List.mem_of_getElem? (i := 629) (by decide +kernel), List.mem_of_getElem? (i := 630) (by decide +kernel)⟩
theorem lw_p37 : lw_okq (⟨"BirthStreetModel", "ageNone", "(I)V"⟩, 32) := ⟨⟨by decide +kernel, by decide +kernel⟩, List.mem_of_getElem? (i := 452) (by decide +kernel), List.mem_of_getElem? (i := 633) (by decide +kernel), List.mem_of_getElem? (i := 634) (by decide +kernel)⟩
theorem lw_p38 : lw_okq (⟨"BirthStreetModel", "lends", "(I)Z"⟩, 32) := ⟨⟨by decide +kernel, by decide +kernel⟩, List.mem_of_getElem? (i := 452) (by decide +kernel), List.mem_of_getElem? (i := 637) (by decide +kernel), List.mem_of_getElem? (i := 638) (by decide +kernel)⟩
theorem lw_p39 : lw_okq (⟨"BirthStreetModel", "ageMore", "()V"⟩, 32) := ⟨⟨by decide +kernel, by decide +kernel⟩, List.mem_of_getElem? (i := 452) (by decide +kernel), List.mem_of_getElem? (i := 645) (by decide +kernel), List.mem_of_getElem? (i := 646) (by decide +kernel)⟩
theorem lw_p40 : lw_okq (⟨"BirthStreetModel", "isDay", "(I)Z"⟩, 32) := ⟨⟨by decide +kernel, by decide +kernel⟩, List.mem_of_getElem? (i := 452) (by decide +kernel), List.mem_of_getElem? (i := 653) (by decide +kernel), List.mem_of_getElem? (i := 654) (by decide +kernel)⟩
theorem lw_p41 : lw_okq (⟨"BirthStreetModel", "walkNow", "()I"⟩, 32) := ⟨⟨by decide +kernel, by decide +kernel⟩, List.mem_of_getElem? (i := 452) (by decide +kernel), List.mem_of_getElem? (i := 665) (by decide +kernel), List.mem_of_getElem? (i := 666) (by decide +kernel)⟩
theorem lw_p42 : lw_okq (⟨"BirthStreetModel", "cheapNow", "(II)I"⟩, 32) := ⟨⟨by decide +kernel, by decide +kernel⟩, List.mem_of_getElem? (i := 452) (by decide +kernel), List.mem_of_getElem? (i := 681) (by decide +kernel), List.mem_of_getElem? (i := 682) (by decide +kernel)⟩
theorem lw_p43 : lw_okq (⟨"BirthStreetModel", "save", "()V"⟩, 32) := ⟨⟨by decide +kernel, by decide +kernel⟩, List.mem_of_getElem? (i := 452) (by decide +kernel), List.mem_of_getElem? (i := 685) (by decide +kernel), List.mem_of_getElem? (i := 686) (by decide +kernel)⟩
theorem lw_p44 : lw_okq (⟨"BirthStreetModel", "numbersBy", "(I)I"⟩, 32) := ⟨⟨by decide +kernel, by decide +kernel⟩, List.mem_of_getElem? (i := 452) (by decide +kernel), List.mem_of_getElem? (i := 692) (by decide +kernel), List.mem_of_getElem? (i := 693) (by decide +kernel)⟩
theorem lw_p45 : lw_okq (⟨"BirthStreetModel", "numbersAll", "()I"⟩, 32) := ⟨⟨by decide +kernel, by decide +kernel⟩, List.mem_of_getElem? (i := 452) (by decide +kernel), List.mem_of_getElem? (i := 699) (by decide +kernel), List.mem_of_getElem? (i := 700) (by decide +kernel)⟩
theorem lw_p46 : lw_okq (⟨"BirthStreetModel", "load", "()V"⟩, 32) := ⟨⟨by decide +kernel, by decide +kernel⟩, List.mem_of_getElem? (i := 452) (by decide +kernel), List.mem_of_getElem? (i := 703) (by decide +kernel), List.mem_of_getElem? (i := 704) (by decide +kernel)⟩
theorem lw_p47 : lw_okq (⟨"BirthStreetModel", "whenNow", "(II)I"⟩, 32) := ⟨⟨by decide +kernel, by decide +kernel⟩, List.mem_of_getElem? (i := 452) (by decide +kernel), List.mem_of_getElem? (i := 712) (by decide +kernel), List.mem_of_getElem? (i := 713) (by decide +kernel)⟩
def lw_privs_3 : List (MethodName × Nat) := [(⟨"BirthStreetModel", "owes", "(I)I"⟩, 32), (⟨"BirthStreetModel", "houseOf", "(II)I"⟩, 32), (⟨"BirthStreetModel", "numberOn", "(II)I"⟩, 32), (⟨"BirthStreetModel", "orderOf", "(I)I"⟩, 32), (⟨"BirthStreetModel", "mayBirth", "(I)Z"⟩, 32), (⟨"BirthStreetModel", "ageNone", "(I)V"⟩, 32), (⟨"BirthStreetModel", "lends", "(I)Z"⟩, 32), (⟨"BirthStreetModel", "ageMore", "()V"⟩, 32), (⟨"BirthStreetModel", "isDay", "(I)Z"⟩, 32), (⟨"BirthStreetModel", "walkNow", "()I"⟩, 32), (⟨"BirthStreetModel", "cheapNow", "(II)I"⟩, 32), (⟨"BirthStreetModel", "save", "()V"⟩, 32), (⟨"BirthStreetModel", "numbersBy", "(I)I"⟩, 32), (⟨"BirthStreetModel", "numbersAll", "()I"⟩, 32), (⟨"BirthStreetModel", "load", "()V"⟩, 32), (⟨"BirthStreetModel", "whenNow", "(II)I"⟩, 32)]
theorem lw_r3 : ∀ q ∈ lw_privs_3, lw_okq q := List.forall_mem_cons.mpr ⟨lw_p32, List.forall_mem_cons.mpr ⟨lw_p33, List.forall_mem_cons.mpr ⟨lw_p34, List.forall_mem_cons.mpr ⟨lw_p35, List.forall_mem_cons.mpr ⟨lw_p36, List.forall_mem_cons.mpr ⟨lw_p37, List.forall_mem_cons.mpr ⟨lw_p38, List.forall_mem_cons.mpr ⟨lw_p39, List.forall_mem_cons.mpr ⟨lw_p40, List.forall_mem_cons.mpr ⟨lw_p41, List.forall_mem_cons.mpr ⟨lw_p42, List.forall_mem_cons.mpr ⟨lw_p43, List.forall_mem_cons.mpr ⟨lw_p44, List.forall_mem_cons.mpr ⟨lw_p45, List.forall_mem_cons.mpr ⟨lw_p46, List.forall_mem_cons.mpr ⟨lw_p47, fun _ h => absurd h List.not_mem_nil⟩⟩⟩⟩⟩⟩⟩⟩⟩⟩⟩⟩⟩⟩⟩⟩
theorem lw_p48 : lw_okq (⟨"BirthStreetModel", "daysNow", "(I)I"⟩, 32) := ⟨⟨by decide +kernel, by decide +kernel⟩, List.mem_of_getElem? (i := 452) (by decide +kernel), List.mem_of_getElem? (i := 728) (by decide +kernel), List.mem_of_getElem? (i := 729) (by decide +kernel)⟩
theorem lw_p49 : lw_okq (⟨"BirthStreetModel", "isHeard", "(I)Z"⟩, 32) := ⟨⟨by decide +kernel, by decide +kernel⟩, List.mem_of_getElem? (i := 452) (by decide +kernel), List.mem_of_getElem? (i := 732) (by decide +kernel), List.mem_of_getElem? (i := 733) (by decide +kernel)⟩
theorem lw_p50 : lw_okq (⟨"BirthStreetModel", "askNow", "()I"⟩, 32) := ⟨⟨by decide +kernel, by decide +kernel⟩, List.mem_of_getElem? (i := 452) (by decide +kernel), List.mem_of_getElem? (i := 740) (by decide +kernel), List.mem_of_getElem? (i := 741) (by decide +kernel)⟩
theorem lw_p51 : lw_okq (⟨"BirthStreetModel", "worstOf", "(I)I"⟩, 32) := ⟨⟨by decide +kernel, by decide +kernel⟩, List.mem_of_getElem? (i := 452) (by decide +kernel), List.mem_of_getElem? (i := 744) (by decide +kernel), List.mem_of_getElem? (i := 745) (by decide +kernel)⟩
theorem lw_p52 : lw_okq (⟨"BirthStreetModel", "yearsNow", "(III)I"⟩, 32) := ⟨⟨by decide +kernel, by decide +kernel⟩, List.mem_of_getElem? (i := 452) (by decide +kernel), List.mem_of_getElem? (i := 752) (by decide +kernel), List.mem_of_getElem? (i := 753) (by decide +kernel)⟩
theorem lw_p53 : lw_okq (⟨"BirthStreetModel", "draw", "(I)I"⟩, 32) := ⟨⟨by decide +kernel, by decide +kernel⟩, List.mem_of_getElem? (i := 452) (by decide +kernel), List.mem_of_getElem? (i := 756) (by decide +kernel), List.mem_of_getElem? (i := 757) (by decide +kernel)⟩
theorem lw_p54 : lw_okq (⟨"BirthStreetModel", "howMany", "(I)I"⟩, 32) := ⟨⟨by decide +kernel, by decide +kernel⟩, List.mem_of_getElem? (i := 452) (by decide +kernel), List.mem_of_getElem? (i := 776) (by decide +kernel), List.mem_of_getElem? (i := 777) (by decide +kernel)⟩
theorem lw_p55 : lw_okq (⟨"BirthStreetModel", "unlike", "()I"⟩, 32) := ⟨⟨by decide +kernel, by decide +kernel⟩, List.mem_of_getElem? (i := 452) (by decide +kernel), List.mem_of_getElem? (i := 780) (by decide +kernel), List.mem_of_getElem? (i := 781) (by decide +kernel)⟩
theorem lw_p56 : lw_okq (⟨"BirthStreetModel", "owesAll", "()I"⟩, 32) := ⟨⟨by decide +kernel, by decide +kernel⟩, List.mem_of_getElem? (i := 452) (by decide +kernel), List.mem_of_getElem? (i := 784) (by decide +kernel), List.mem_of_getElem? (i := 785) (by decide +kernel)⟩
theorem lw_p57 : lw_okq (⟨"BirthStreetModel", "mixHouse", "(I)V"⟩, 32) := ⟨⟨by decide +kernel, by decide +kernel⟩, List.mem_of_getElem? (i := 452) (by decide +kernel), List.mem_of_getElem? (i := 793) (by decide +kernel), List.mem_of_getElem? (i := 794) (by decide +kernel)⟩
theorem lw_p58 : lw_okq (⟨"BirthStreetModel", "mix", "(J)V"⟩, 32) := ⟨⟨by decide +kernel, by decide +kernel⟩, List.mem_of_getElem? (i := 452) (by decide +kernel), List.mem_of_getElem? (i := 797) (by decide +kernel), List.mem_of_getElem? (i := 798) (by decide +kernel)⟩
def lw_privs_4 : List (MethodName × Nat) := [(⟨"BirthStreetModel", "daysNow", "(I)I"⟩, 32), (⟨"BirthStreetModel", "isHeard", "(I)Z"⟩, 32), (⟨"BirthStreetModel", "askNow", "()I"⟩, 32), (⟨"BirthStreetModel", "worstOf", "(I)I"⟩, 32), (⟨"BirthStreetModel", "yearsNow", "(III)I"⟩, 32), (⟨"BirthStreetModel", "draw", "(I)I"⟩, 32), (⟨"BirthStreetModel", "howMany", "(I)I"⟩, 32), (⟨"BirthStreetModel", "unlike", "()I"⟩, 32), (⟨"BirthStreetModel", "owesAll", "()I"⟩, 32), (⟨"BirthStreetModel", "mixHouse", "(I)V"⟩, 32), (⟨"BirthStreetModel", "mix", "(J)V"⟩, 32)]
theorem lw_r4 : ∀ q ∈ lw_privs_4, lw_okq q := List.forall_mem_cons.mpr ⟨lw_p48, List.forall_mem_cons.mpr ⟨lw_p49, List.forall_mem_cons.mpr ⟨lw_p50, List.forall_mem_cons.mpr ⟨lw_p51, List.forall_mem_cons.mpr ⟨lw_p52, List.forall_mem_cons.mpr ⟨lw_p53, List.forall_mem_cons.mpr ⟨lw_p54, List.forall_mem_cons.mpr ⟨lw_p55, List.forall_mem_cons.mpr ⟨lw_p56, List.forall_mem_cons.mpr ⟨lw_p57, List.forall_mem_cons.mpr ⟨lw_p58, fun _ h => absurd h List.not_mem_nil⟩⟩⟩⟩⟩⟩⟩⟩⟩⟩⟩
def lw_privs : List (MethodName × Nat) := lw_privs_1 ++ (lw_privs_2 ++ (lw_privs_3 ++ (lw_privs_4)))
def lw_tbl : List Cond := k2_sels lw_privs ++ tables_1
theorem lw_privs_ok : ∀ q ∈ lw_privs, lw_okq q := by
  show ∀ q ∈ lw_privs_1 ++ (lw_privs_2 ++ (lw_privs_3 ++ (lw_privs_4))), lw_okq q
  exact List.forall_mem_append.mpr ⟨lw_r1, List.forall_mem_append.mpr ⟨lw_r2, List.forall_mem_append.mpr ⟨lw_r3, lw_r4⟩⟩⟩
def RX0 : String := "BirthStreet$Moment"
def TX0 : u_T := fun k => match k with
  | 0 => ("BirthStreet$Moment", "today", "I", false)
  | 1 => ("BirthStreet$Moment", "births", "I", false)
  | 2 => ("BirthStreet$Moment", "debts", "I", false)
  | 3 => ("BirthStreet$Moment", "heard", "I", false)
  | 4 => ("BirthStreet$Moment", "ages", "LBirthStreet$Row;", true)
  | 5 => ("BirthStreet$Moment", "pastAges", "LBirthStreet$Row;", true)
  | 6 => ("BirthStreet$Moment", "birthsIn", "LBirthStreet$Row;", true)
  | 7 => ("BirthStreet$Moment", "debtAmounts", "LBirthStreet$Row;", true)
  | 8 => ("BirthStreet$Moment", "debtNumbers", "LBirthStreet$Row;", true)
  | 9 => ("BirthStreet$Moment", "heardHouses", "LBirthStreet$Row;", true)
  | _ => ("BirthStreet$Moment", "heardNumbers", "LBirthStreet$Row;", true)
def tyX0 : Nat → FieldType := fun k => match k with
  | 0 => .int
  | 1 => .int
  | 2 => .int
  | 3 => .int
  | 4 => .object "BirthStreet$Row"
  | 5 => .object "BirthStreet$Row"
  | 6 => .object "BirthStreet$Row"
  | 7 => .object "BirthStreet$Row"
  | 8 => .object "BirthStreet$Row"
  | 9 => .object "BirthStreet$Row"
  | _ => .object "BirthStreet$Row"
abbrev wsX00 : List Cond := u_ws RX0 TX0 11
theorem nmX0 : ∀ a, a < 11 → ∀ b, b < 11 → a ≠ b → (TX0 a).2.1 ≠ (TX0 b).2.1 := by decide +kernel
theorem tyX0_ok : ∀ k, k < 11 → parseFieldDescriptor (TX0 k).2.2.1 = some (tyX0 k) := by decide +kernel
abbrev cX0_init : ByteArray := prog_2_method_1_code
def yX0_init : MethodName := ⟨RX0, "<init>", "()V"⟩
abbrev cX0_startAnew : ByteArray := prog_2_method_2_code
def yX0_startAnew : MethodName := ⟨RX0, "startAnew", "()V"⟩
abbrev cX0_take : ByteArray := prog_2_method_3_code
def yX0_take : MethodName := ⟨RX0, "take", "(LBirthStreet$Moment;)V"⟩
def RX1 : String := "BirthStreet$Row"
def TX1 : u_T := fun k => match k with
  | _ => ("BirthStreet$Row", "cells", "[I", true)
def tyX1 : Nat → FieldType := fun k => match k with
  | _ => .array .int
abbrev wsX10 : List Cond := u_ws RX1 TX1 1
theorem nmX1 : ∀ a, a < 1 → ∀ b, b < 1 → a ≠ b → (TX1 a).2.1 ≠ (TX1 b).2.1 := by decide +kernel
theorem tyX1_ok : ∀ k, k < 1 → parseFieldDescriptor (TX1 k).2.2.1 = some (tyX1 k) := by decide +kernel
abbrev cX1_init : ByteArray := prog_3_method_1_code
def yX1_init : MethodName := ⟨RX1, "<init>", "(I)V"⟩
abbrev cX1_at : ByteArray := prog_3_method_2_code
def yX1_at : MethodName := ⟨RX1, "at", "(I)I"⟩
abbrev cX1_put : ByteArray := prog_3_method_3_code
def yX1_put : MethodName := ⟨RX1, "put", "(II)V"⟩
abbrev cX1_add : ByteArray := prog_3_method_4_code
def yX1_add : MethodName := ⟨RX1, "add", "(II)V"⟩
abbrev cX1_clear : ByteArray := prog_3_method_5_code
def yX1_clear : MethodName := ⟨RX1, "clear", "()V"⟩
abbrev cX1_take : ByteArray := prog_3_method_6_code
def yX1_take : MethodName := ⟨RX1, "take", "(LBirthStreet$Row;)V"⟩
def RX2 : String := "BirthStreet"
def TX2 : u_T := fun k => match k with
  | 0 => ("BirthStreet", "page", "LBirthStreet$Row;", true)
  | 1 => ("BirthStreet", "letters", "I", false)
  | 2 => ("BirthStreet", "houses", "I", false)
  | 3 => ("BirthStreet", "streetsRead", "I", false)
  | 4 => ("BirthStreet", "kinds", "LBirthStreet$Row;", true)
  | 5 => ("BirthStreet", "now", "LBirthStreet$Moment;", true)
  | 6 => ("BirthStreet", "kept", "LBirthStreet$Moment;", true)
  | 7 => ("BirthStreet", "isKept", "Z", false)
  | 8 => ("BirthStreet", "wouldBe", "LBirthStreet$Row;", true)
  | 9 => ("BirthStreet", "possible", "LBirthStreet$Row;", true)
  | _ => ("BirthStreet", "tally", "LBirthStreet$Row;", true)
def tyX2 : Nat → FieldType := fun k => match k with
  | 0 => .object "BirthStreet$Row"
  | 1 => .int
  | 2 => .int
  | 3 => .int
  | 4 => .object "BirthStreet$Row"
  | 5 => .object "BirthStreet$Moment"
  | 6 => .object "BirthStreet$Moment"
  | 7 => .boolean
  | 8 => .object "BirthStreet$Row"
  | 9 => .object "BirthStreet$Row"
  | _ => .object "BirthStreet$Row"
abbrev wsX20 : List Cond := u_ws RX2 TX2 11
theorem nmX2 : ∀ a, a < 11 → ∀ b, b < 11 → a ≠ b → (TX2 a).2.1 ≠ (TX2 b).2.1 := by decide +kernel
theorem tyX2_ok : ∀ k, k < 11 → parseFieldDescriptor (TX2 k).2.2.1 = some (tyX2 k) := by decide +kernel
abbrev cX2_init : ByteArray := prog_1_method_1_code
def yX2_init : MethodName := ⟨RX2, "<init>", "()V"⟩
abbrev cX2_letter : ByteArray := prog_1_method_2_code
def yX2_letter : MethodName := ⟨RX2, "letter", "(I)I"⟩
abbrev cX2_blank : ByteArray := prog_1_method_3_code
def yX2_blank : MethodName := ⟨RX2, "blank", "()I"⟩
abbrev cX2_fault : ByteArray := prog_1_method_4_code
def yX2_fault : MethodName := ⟨RX2, "fault", "()I"⟩
abbrev cX2_street : ByteArray := prog_1_method_5_code
def yX2_street : MethodName := ⟨RX2, "street", "()I"⟩
abbrev cX2_about : ByteArray := prog_1_method_6_code
def yX2_about : MethodName := ⟨RX2, "about", "(II)I"⟩
abbrev cX2_as : ByteArray := prog_1_method_7_code
def yX2_as : MethodName := ⟨RX2, "as", "(II)I"⟩
abbrev cX2_birth : ByteArray := prog_1_method_8_code
def yX2_birth : MethodName := ⟨RX2, "birth", "(I)I"⟩
abbrev cX2_day : ByteArray := prog_1_method_9_code
def yX2_day : MethodName := ⟨RX2, "day", "()I"⟩
abbrev cX2_then : ByteArray := prog_1_method_10_code
def yX2_then : MethodName := ⟨RX2, "then", "(II)I"⟩
abbrev cX2_goesTo : ByteArray := prog_1_method_11_code
def yX2_goesTo : MethodName := ⟨RX2, "goesTo", "(II)I"⟩
abbrev cX2_walk : ByteArray := prog_1_method_12_code
def yX2_walk : MethodName := ⟨RX2, "walk", "()I"⟩
abbrev cX2_debt : ByteArray := prog_1_method_13_code
def yX2_debt : MethodName := ⟨RX2, "debt", "(II)I"⟩
abbrev cX2_pay : ByteArray := prog_1_method_14_code
def yX2_pay : MethodName := ⟨RX2, "pay", "()I"⟩
abbrev cX2_cheap : ByteArray := prog_1_method_15_code
def yX2_cheap : MethodName := ⟨RX2, "cheap", "(II)I"⟩
abbrev cX2_when : ByteArray := prog_1_method_16_code
def yX2_when : MethodName := ⟨RX2, "when", "(II)I"⟩
abbrev cX2_hear : ByteArray := prog_1_method_17_code
def yX2_hear : MethodName := ⟨RX2, "hear", "(II)I"⟩
abbrev cX2_forget : ByteArray := prog_1_method_18_code
def yX2_forget : MethodName := ⟨RX2, "forget", "()I"⟩
abbrev cX2_days : ByteArray := prog_1_method_19_code
def yX2_days : MethodName := ⟨RX2, "days", "(I)I"⟩
abbrev cX2_ask : ByteArray := prog_1_method_20_code
def yX2_ask : MethodName := ⟨RX2, "ask", "()I"⟩
abbrev cX2_years : ByteArray := prog_1_method_21_code
def yX2_years : MethodName := ⟨RX2, "years", "(III)I"⟩
abbrev cX2_image : ByteArray := prog_1_method_22_code
def yX2_image : MethodName := ⟨RX2, "image", "()I"⟩
abbrev cX2_restore : ByteArray := prog_1_method_23_code
def yX2_restore : MethodName := ⟨RX2, "restore", "()I"⟩
abbrev cX2_count : ByteArray := prog_1_method_24_code
def yX2_count : MethodName := ⟨RX2, "count", "(I)I"⟩
abbrev cX2_digest : ByteArray := prog_1_method_25_code
def yX2_digest : MethodName := ⟨RX2, "digest", "()J"⟩
abbrev cX2_withHouse : ByteArray := prog_1_method_26_code
def yX2_withHouse : MethodName := ⟨RX2, "withHouse", "(JI)J"⟩
abbrev cX2_with : ByteArray := prog_1_method_27_code
def yX2_with : MethodName := ⟨RX2, "with", "(JI)J"⟩
abbrev cX2_canStandAt : ByteArray := prog_1_method_28_code
def yX2_canStandAt : MethodName := ⟨RX2, "canStandAt", "(II)Z"⟩
abbrev cX2_kindOfLetter : ByteArray := prog_1_method_29_code
def yX2_kindOfLetter : MethodName := ⟨RX2, "kindOfLetter", "(I)I"⟩
abbrev cX2_housesOnPage : ByteArray := prog_1_method_30_code
def yX2_housesOnPage : MethodName := ⟨RX2, "housesOnPage", "()I"⟩
abbrev cX2_isA : ByteArray := prog_1_method_31_code
def yX2_isA : MethodName := ⟨RX2, "isA", "(II)Z"⟩
abbrev cX2_numberOf : ByteArray := prog_1_method_32_code
def yX2_numberOf : MethodName := ⟨RX2, "numberOf", "(II)I"⟩
abbrev cX2_ageNextDay : ByteArray := prog_1_method_33_code
def yX2_ageNextDay : MethodName := ⟨RX2, "ageNextDay", "(II)I"⟩
abbrev cX2_isHouse : ByteArray := prog_1_method_34_code
def yX2_isHouse : MethodName := ⟨RX2, "isHouse", "(I)Z"⟩
abbrev cX2_lendsACradle : ByteArray := prog_1_method_35_code
def yX2_lendsACradle : MethodName := ⟨RX2, "lendsACradle", "(I)Z"⟩
abbrev cX2_bear : ByteArray := prog_1_method_36_code
def yX2_bear : MethodName := ⟨RX2, "bear", "(LBirthStreet$Row;I)V"⟩
abbrev cX2_bearIfMayBe : ByteArray := prog_1_method_37_code
def yX2_bearIfMayBe : MethodName := ⟨RX2, "bearIfMayBe", "(LBirthStreet$Row;I)V"⟩
abbrev cX2_growOlder : ByteArray := prog_1_method_38_code
def yX2_growOlder : MethodName := ⟨RX2, "growOlder", "(LBirthStreet$Row;)V"⟩
abbrev cX2_numberAt : ByteArray := prog_1_method_39_code
def yX2_numberAt : MethodName := ⟨RX2, "numberAt", "(LBirthStreet$Row;I)I"⟩
abbrev cX2_allNumbers : ByteArray := prog_1_method_40_code
def yX2_allNumbers : MethodName := ⟨RX2, "allNumbers", "(LBirthStreet$Row;)I"⟩
abbrev cX2_turnInWalk : ByteArray := prog_1_method_41_code
def yX2_turnInWalk : MethodName := ⟨RX2, "turnInWalk", "(LBirthStreet$Row;I)I"⟩
abbrev cX2_houseOfTurn : ByteArray := prog_1_method_42_code
def yX2_houseOfTurn : MethodName := ⟨RX2, "houseOfTurn", "(LBirthStreet$Row;I)I"⟩
abbrev cX2_lengthOfWalk : ByteArray := prog_1_method_43_code
def yX2_lengthOfWalk : MethodName := ⟨RX2, "lengthOfWalk", "(LBirthStreet$Row;)I"⟩
abbrev cX2_isDay : ByteArray := prog_1_method_44_code
def yX2_isDay : MethodName := ⟨RX2, "isDay", "(I)Z"⟩
abbrev cX2_cellOf : ByteArray := prog_1_method_45_code
def yX2_cellOf : MethodName := ⟨RX2, "cellOf", "(II)I"⟩
abbrev cX2_numberNow : ByteArray := prog_1_method_46_code
def yX2_numberNow : MethodName := ⟨RX2, "numberNow", "(I)I"⟩
abbrev cX2_numberOn : ByteArray := prog_1_method_47_code
def yX2_numberOn : MethodName := ⟨RX2, "numberOn", "(II)I"⟩
abbrev cX2_houseWith : ByteArray := prog_1_method_48_code
def yX2_houseWith : MethodName := ⟨RX2, "houseWith", "(II)I"⟩
abbrev cX2_unlikeNumbers : ByteArray := prog_1_method_49_code
def yX2_unlikeNumbers : MethodName := ⟨RX2, "unlikeNumbers", "()I"⟩
abbrev cX2_owedBy : ByteArray := prog_1_method_50_code
def yX2_owedBy : MethodName := ⟨RX2, "owedBy", "(I)I"⟩
abbrev cX2_owedByAll : ByteArray := prog_1_method_51_code
def yX2_owedByAll : MethodName := ⟨RX2, "owedByAll", "()I"⟩
abbrev cX2_cheapestSet : ByteArray := prog_1_method_52_code
def yX2_cheapestSet : MethodName := ⟨RX2, "cheapestSet", "(I)I"⟩
abbrev cX2_isIn : ByteArray := prog_1_method_53_code
def yX2_isIn : MethodName := ⟨RX2, "isIn", "(II)Z"⟩
abbrev cX2_mayAllBear : ByteArray := prog_1_method_54_code
def yX2_mayAllBear : MethodName := ⟨RX2, "mayAllBear", "(I)Z"⟩
abbrev cX2_numbersBy : ByteArray := prog_1_method_55_code
def yX2_numbersBy : MethodName := ⟨RX2, "numbersBy", "(I)I"⟩
abbrev cX2_canHaveBeen : ByteArray := prog_1_method_56_code
def yX2_canHaveBeen : MethodName := ⟨RX2, "canHaveBeen", "(I)Z"⟩
abbrev cX2_markPossibleDays : ByteArray := prog_1_method_57_code
def yX2_markPossibleDays : MethodName := ⟨RX2, "markPossibleDays", "()I"⟩
abbrev cX2_mostLeftBy : ByteArray := prog_1_method_58_code
def yX2_mostLeftBy : MethodName := ⟨RX2, "mostLeftBy", "(I)I"⟩
abbrev cX2_nextSeed : ByteArray := prog_1_method_59_code
def yX2_nextSeed : MethodName := ⟨RX2, "nextSeed", "(I)I"⟩
abbrev cX2_drawnHouse : ByteArray := prog_1_method_60_code
def yX2_drawnHouse : MethodName := ⟨RX2, "drawnHouse", "(I)I"⟩
def RX3 : String := "BirthStreetModel"
def TX3 : u_T := fun k => match k with
  | 0 => ("BirthStreetModel", "streets", "I", false)
  | 1 => ("BirthStreetModel", "houses", "I", false)
  | 2 => ("BirthStreetModel", "kindOf", "[I", true)
  | 3 => ("BirthStreetModel", "ageOf", "[I", true)
  | 4 => ("BirthStreetModel", "birthsOf", "[I", true)
  | 5 => ("BirthStreetModel", "ageThen", "[I", true)
  | 6 => ("BirthStreetModel", "today", "I", false)
  | 7 => ("BirthStreetModel", "births", "I", false)
  | 8 => ("BirthStreetModel", "debts", "I", false)
  | 9 => ("BirthStreetModel", "debtMuch", "[I", true)
  | 10 => ("BirthStreetModel", "debtNumber", "[I", true)
  | 11 => ("BirthStreetModel", "heard", "I", false)
  | 12 => ("BirthStreetModel", "heardHouse", "[I", true)
  | 13 => ("BirthStreetModel", "heardNumber", "[I", true)
  | 14 => ("BirthStreetModel", "pageLength", "I", false)
  | 15 => ("BirthStreetModel", "page", "[B", true)
  | 16 => ("BirthStreetModel", "savedAge", "[I", true)
  | 17 => ("BirthStreetModel", "seedNow", "J", false)
  | 18 => ("BirthStreetModel", "isKept", "Z", false)
  | 19 => ("BirthStreetModel", "keptStreet", "I", false)
  | 20 => ("BirthStreetModel", "keptToday", "I", false)
  | 21 => ("BirthStreetModel", "keptBirths", "I", false)
  | 22 => ("BirthStreetModel", "keptDebts", "I", false)
  | 23 => ("BirthStreetModel", "keptHeard", "I", false)
  | 24 => ("BirthStreetModel", "keptAge", "[I", true)
  | 25 => ("BirthStreetModel", "keptBirthsOf", "[I", true)
  | 26 => ("BirthStreetModel", "keptThen", "[I", true)
  | 27 => ("BirthStreetModel", "keptMuch", "[I", true)
  | 28 => ("BirthStreetModel", "keptNumber", "[I", true)
  | 29 => ("BirthStreetModel", "keptHouse", "[I", true)
  | 30 => ("BirthStreetModel", "keptHeardNumber", "[I", true)
  | _ => ("BirthStreetModel", "h", "J", false)
def tyX3 : Nat → FieldType := fun k => match k with
  | 0 => .int
  | 1 => .int
  | 2 => .array .int
  | 3 => .array .int
  | 4 => .array .int
  | 5 => .array .int
  | 6 => .int
  | 7 => .int
  | 8 => .int
  | 9 => .array .int
  | 10 => .array .int
  | 11 => .int
  | 12 => .array .int
  | 13 => .array .int
  | 14 => .int
  | 15 => .array .byte
  | 16 => .array .int
  | 17 => .long
  | 18 => .boolean
  | 19 => .int
  | 20 => .int
  | 21 => .int
  | 22 => .int
  | 23 => .int
  | 24 => .array .int
  | 25 => .array .int
  | 26 => .array .int
  | 27 => .array .int
  | 28 => .array .int
  | 29 => .array .int
  | 30 => .array .int
  | _ => .long
abbrev wsX30 : List Cond := u_ws RX3 TX3 32
theorem nmX3 : ∀ a, a < 32 → ∀ b, b < 32 → a ≠ b → (TX3 a).2.1 ≠ (TX3 b).2.1 := by decide +kernel
theorem tyX3_ok : ∀ k, k < 32 → parseFieldDescriptor (TX3 k).2.2.1 = some (tyX3 k) := by decide +kernel
abbrev cX3_init : ByteArray := prog_5_method_1_code
def yX3_init : MethodName := ⟨RX3, "<init>", "()V"⟩
abbrev cX3_within : ByteArray := prog_5_method_3_code
def yX3_within : MethodName := ⟨RX3, "within", "(III)Z"⟩
abbrev cX3_isIn : ByteArray := prog_5_method_4_code
def yX3_isIn : MethodName := ⟨RX3, "isIn", "(II)Z"⟩
abbrev cX3_size : ByteArray := prog_5_method_5_code
def yX3_size : MethodName := ⟨RX3, "size", "(I)I"⟩
abbrev cX3_letter : ByteArray := prog_5_method_6_code
def yX3_letter : MethodName := ⟨RX3, "letter", "(I)I"⟩
abbrev cX3_blank : ByteArray := prog_5_method_7_code
def yX3_blank : MethodName := ⟨RX3, "blank", "()I"⟩
abbrev cX3_kindBy : ByteArray := prog_5_method_8_code
def yX3_kindBy : MethodName := ⟨RX3, "kindBy", "(I)I"⟩
abbrev cX3_isGood : ByteArray := prog_5_method_9_code
def yX3_isGood : MethodName := ⟨RX3, "isGood", "(I)Z"⟩
abbrev cX3_faultNow : ByteArray := prog_5_method_10_code
def yX3_faultNow : MethodName := ⟨RX3, "faultNow", "()I"⟩
abbrev cX3_fault : ByteArray := prog_5_method_11_code
def yX3_fault : MethodName := ⟨RX3, "fault", "()I"⟩
abbrev cX3_street : ByteArray := prog_5_method_12_code
def yX3_street : MethodName := ⟨RX3, "street", "()I"⟩
abbrev cX3_isHouse : ByteArray := prog_5_method_13_code
def yX3_isHouse : MethodName := ⟨RX3, "isHouse", "(I)Z"⟩
abbrev cX3_isDay : ByteArray := prog_5_method_14_code
def yX3_isDay : MethodName := ⟨RX3, "isDay", "(I)Z"⟩
abbrev cX3_numberBy : ByteArray := prog_5_method_15_code
def yX3_numberBy : MethodName := ⟨RX3, "numberBy", "(II)I"⟩
abbrev cX3_number : ByteArray := prog_5_method_16_code
def yX3_number : MethodName := ⟨RX3, "number", "(I)I"⟩
abbrev cX3_numberOn : ByteArray := prog_5_method_17_code
def yX3_numberOn : MethodName := ⟨RX3, "numberOn", "(II)I"⟩
abbrev cX3_mayBirth : ByteArray := prog_5_method_18_code
def yX3_mayBirth : MethodName := ⟨RX3, "mayBirth", "(I)Z"⟩
abbrev cX3_lends : ByteArray := prog_5_method_19_code
def yX3_lends : MethodName := ⟨RX3, "lends", "(I)Z"⟩
abbrev cX3_ageNone : ByteArray := prog_5_method_20_code
def yX3_ageNone : MethodName := ⟨RX3, "ageNone", "(I)V"⟩
abbrev cX3_ageMore : ByteArray := prog_5_method_21_code
def yX3_ageMore : MethodName := ⟨RX3, "ageMore", "()V"⟩
abbrev cX3_orderOf : ByteArray := prog_5_method_22_code
def yX3_orderOf : MethodName := ⟨RX3, "orderOf", "(I)I"⟩
abbrev cX3_walkNow : ByteArray := prog_5_method_23_code
def yX3_walkNow : MethodName := ⟨RX3, "walkNow", "()I"⟩
abbrev cX3_houseOf : ByteArray := prog_5_method_24_code
def yX3_houseOf : MethodName := ⟨RX3, "houseOf", "(II)I"⟩
abbrev cX3_owes : ByteArray := prog_5_method_25_code
def yX3_owes : MethodName := ⟨RX3, "owes", "(I)I"⟩
abbrev cX3_houseNow : ByteArray := prog_5_method_26_code
def yX3_houseNow : MethodName := ⟨RX3, "houseNow", "(II)I"⟩
abbrev cX3_about : ByteArray := prog_5_method_27_code
def yX3_about : MethodName := ⟨RX3, "about", "(II)I"⟩
abbrev cX3_as : ByteArray := prog_5_method_28_code
def yX3_as : MethodName := ⟨RX3, "as", "(II)I"⟩
abbrev cX3_birth : ByteArray := prog_5_method_29_code
def yX3_birth : MethodName := ⟨RX3, "birth", "(I)I"⟩
abbrev cX3_day : ByteArray := prog_5_method_30_code
def yX3_day : MethodName := ⟨RX3, "day", "()I"⟩
abbrev cX3_then : ByteArray := prog_5_method_31_code
def yX3_then : MethodName := ⟨RX3, "then", "(II)I"⟩
abbrev cX3_goesTo : ByteArray := prog_5_method_32_code
def yX3_goesTo : MethodName := ⟨RX3, "goesTo", "(II)I"⟩
abbrev cX3_walk : ByteArray := prog_5_method_33_code
def yX3_walk : MethodName := ⟨RX3, "walk", "()I"⟩
abbrev cX3_debt : ByteArray := prog_5_method_34_code
def yX3_debt : MethodName := ⟨RX3, "debt", "(II)I"⟩
abbrev cX3_pay : ByteArray := prog_5_method_35_code
def yX3_pay : MethodName := ⟨RX3, "pay", "()I"⟩
abbrev cX3_save : ByteArray := prog_5_method_36_code
def yX3_save : MethodName := ⟨RX3, "save", "()V"⟩
abbrev cX3_load : ByteArray := prog_5_method_37_code
def yX3_load : MethodName := ⟨RX3, "load", "()V"⟩
abbrev cX3_numbersAll : ByteArray := prog_5_method_38_code
def yX3_numbersAll : MethodName := ⟨RX3, "numbersAll", "()I"⟩
abbrev cX3_numbersBy : ByteArray := prog_5_method_39_code
def yX3_numbersBy : MethodName := ⟨RX3, "numbersBy", "(I)I"⟩
abbrev cX3_cheapNow : ByteArray := prog_5_method_40_code
def yX3_cheapNow : MethodName := ⟨RX3, "cheapNow", "(II)I"⟩
abbrev cX3_cheap : ByteArray := prog_5_method_41_code
def yX3_cheap : MethodName := ⟨RX3, "cheap", "(II)I"⟩
abbrev cX3_whenNow : ByteArray := prog_5_method_42_code
def yX3_whenNow : MethodName := ⟨RX3, "whenNow", "(II)I"⟩
abbrev cX3_when : ByteArray := prog_5_method_43_code
def yX3_when : MethodName := ⟨RX3, "when", "(II)I"⟩
abbrev cX3_hear : ByteArray := prog_5_method_44_code
def yX3_hear : MethodName := ⟨RX3, "hear", "(II)I"⟩
abbrev cX3_forget : ByteArray := prog_5_method_45_code
def yX3_forget : MethodName := ⟨RX3, "forget", "()I"⟩
abbrev cX3_isHeard : ByteArray := prog_5_method_46_code
def yX3_isHeard : MethodName := ⟨RX3, "isHeard", "(I)Z"⟩
abbrev cX3_daysNow : ByteArray := prog_5_method_47_code
def yX3_daysNow : MethodName := ⟨RX3, "daysNow", "(I)I"⟩
abbrev cX3_days : ByteArray := prog_5_method_48_code
def yX3_days : MethodName := ⟨RX3, "days", "(I)I"⟩
abbrev cX3_worstOf : ByteArray := prog_5_method_49_code
def yX3_worstOf : MethodName := ⟨RX3, "worstOf", "(I)I"⟩
abbrev cX3_askNow : ByteArray := prog_5_method_50_code
def yX3_askNow : MethodName := ⟨RX3, "askNow", "()I"⟩
abbrev cX3_ask : ByteArray := prog_5_method_51_code
def yX3_ask : MethodName := ⟨RX3, "ask", "()I"⟩
abbrev cX3_draw : ByteArray := prog_5_method_52_code
def yX3_draw : MethodName := ⟨RX3, "draw", "(I)I"⟩
abbrev cX3_yearsNow : ByteArray := prog_5_method_53_code
def yX3_yearsNow : MethodName := ⟨RX3, "yearsNow", "(III)I"⟩
abbrev cX3_years : ByteArray := prog_5_method_54_code
def yX3_years : MethodName := ⟨RX3, "years", "(III)I"⟩
abbrev cX3_image : ByteArray := prog_5_method_55_code
def yX3_image : MethodName := ⟨RX3, "image", "()I"⟩
abbrev cX3_restore : ByteArray := prog_5_method_56_code
def yX3_restore : MethodName := ⟨RX3, "restore", "()I"⟩
abbrev cX3_unlike : ByteArray := prog_5_method_57_code
def yX3_unlike : MethodName := ⟨RX3, "unlike", "()I"⟩
abbrev cX3_owesAll : ByteArray := prog_5_method_58_code
def yX3_owesAll : MethodName := ⟨RX3, "owesAll", "()I"⟩
abbrev cX3_howMany : ByteArray := prog_5_method_59_code
def yX3_howMany : MethodName := ⟨RX3, "howMany", "(I)I"⟩
abbrev cX3_count : ByteArray := prog_5_method_60_code
def yX3_count : MethodName := ⟨RX3, "count", "(I)I"⟩
abbrev cX3_mix : ByteArray := prog_5_method_61_code
def yX3_mix : MethodName := ⟨RX3, "mix", "(J)V"⟩
abbrev cX3_mixHouse : ByteArray := prog_5_method_62_code
def yX3_mixHouse : MethodName := ⟨RX3, "mixHouse", "(I)V"⟩
abbrev cX3_digest : ByteArray := prog_5_method_63_code
def yX3_digest : MethodName := ⟨RX3, "digest", "()J"⟩
def RJ6 : String := "java/lang/Integer"
def TJ6 : u_T := fun k => match k with
  | _ => ("", "", "", false)
def tyJ6 : Nat → FieldType := fun k => match k with
  | _ => .int
abbrev wsJ60 : List Cond := u_ws RJ6 TJ6 0
theorem nmJ6 : ∀ a, a < 0 → ∀ b, b < 0 → a ≠ b → (TJ6 a).2.1 ≠ (TJ6 b).2.1 := by decide +kernel
theorem tyJ6_ok : ∀ k, k < 0 → parseFieldDescriptor (TJ6 k).2.2.1 = some (tyJ6 k) := by decide +kernel
abbrev cJ6_bitCount_0f7a4 : ByteArray := prog_6_method_49_code
def yJ6_bitCount_0f7a4 : MethodName := ⟨RJ6, "bitCount", "(I)I"⟩
def RJ9 : String := "java/lang/Math"
def TJ9 : u_T := fun k => match k with
  | _ => ("", "", "", false)
def tyJ9 : Nat → FieldType := fun k => match k with
  | _ => .int
abbrev wsJ90 : List Cond := u_ws RJ9 TJ9 0
theorem nmJ9 : ∀ a, a < 0 → ∀ b, b < 0 → a ≠ b → (TJ9 a).2.1 ≠ (TJ9 b).2.1 := by decide +kernel
theorem tyJ9_ok : ∀ k, k < 0 → parseFieldDescriptor (TJ9 k).2.2.1 = some (tyJ9 k) := by decide +kernel
abbrev cJ9_abs_0f7a4 : ByteArray := prog_7_method_59_code
def yJ9_abs_0f7a4 : MethodName := ⟨RJ9, "abs", "(I)I"⟩
abbrev cJ9_max_7cf53 : ByteArray := prog_7_method_65_code
def yJ9_max_7cf53 : MethodName := ⟨RJ9, "max", "(II)I"⟩
def RJ0 : String := "java/lang/String"
def TJ0 : u_T := fun k => match k with
  | _ => ("", "", "", false)
def tyJ0 : Nat → FieldType := fun k => match k with
  | _ => .int
abbrev wsJ00 : List Cond := u_ws RJ0 TJ0 0
theorem nmJ0 : ∀ a, a < 0 → ∀ b, b < 0 → a ≠ b → (TJ0 a).2.1 ≠ (TJ0 b).2.1 := by decide +kernel
theorem tyJ0_ok : ∀ k, k < 0 → parseFieldDescriptor (TJ0 k).2.2.1 = some (tyJ0 k) := by decide +kernel
abbrev cJ0_length_8abf5 : ByteArray := prog_8_method_54_code
def yJ0_length_8abf5 : MethodName := ⟨RJ0, "length", "()I"⟩
abbrev cJ0_charAt_5068e : ByteArray := prog_8_method_56_code
def yJ0_charAt_5068e : MethodName := ⟨RJ0, "charAt", "(I)C"⟩
abbrev cJ0_coder_7d493 : ByteArray := prog_8_method_152_code
def yJ0_coder_7d493 : MethodName := ⟨RJ0, "coder", "()B"⟩
abbrev cJ0_isLatin1_aae02 : ByteArray := prog_8_method_154_code
def yJ0_isLatin1_aae02 : MethodName := ⟨RJ0, "isLatin1", "()Z"⟩
abbrev cJ0_checkIndex_df160 : ByteArray := prog_8_method_155_code
def yJ0_checkIndex_df160 : MethodName := ⟨RJ0, "checkIndex", "(II)V"⟩
def RJ1 : String := "java/lang/StringLatin1"
def TJ1 : u_T := fun k => match k with
  | _ => ("", "", "", false)
def tyJ1 : Nat → FieldType := fun k => match k with
  | _ => .int
abbrev wsJ10 : List Cond := u_ws RJ1 TJ1 0
theorem nmJ1 : ∀ a, a < 0 → ∀ b, b < 0 → a ≠ b → (TJ1 a).2.1 ≠ (TJ1 b).2.1 := by decide +kernel
theorem tyJ1_ok : ∀ k, k < 0 → parseFieldDescriptor (TJ1 k).2.2.1 = some (tyJ1 k) := by decide +kernel
abbrev cJ1_charAt_3b067 : ByteArray := prog_9_method_2_code
def yJ1_charAt_3b067 : MethodName := ⟨RJ1, "charAt", "([BI)C"⟩
def RJ2 : String := "java/lang/StringUTF16"
def TJ2 : u_T := fun k => match k with
  | _ => ("", "", "", false)
def tyJ2 : Nat → FieldType := fun k => match k with
  | _ => .int
abbrev wsJ20 : List Cond := u_ws RJ2 TJ2 0
theorem nmJ2 : ∀ a, a < 0 → ∀ b, b < 0 → a ≠ b → (TJ2 a).2.1 ≠ (TJ2 b).2.1 := by decide +kernel
theorem tyJ2_ok : ∀ k, k < 0 → parseFieldDescriptor (TJ2 k).2.2.1 = some (tyJ2 k) := by decide +kernel
abbrev cJ2_getChar_3b067 : ByteArray := prog_10_method_5_code
def yJ2_getChar_3b067 : MethodName := ⟨RJ2, "getChar", "([BI)C"⟩
abbrev cJ2_length_9d52b : ByteArray := prog_10_method_6_code
def yJ2_length_9d52b : MethodName := ⟨RJ2, "length", "([B)I"⟩
abbrev cJ2_charAt_3b067 : ByteArray := prog_10_method_83_code
def yJ2_charAt_3b067 : MethodName := ⟨RJ2, "charAt", "([BI)C"⟩
abbrev cJ2_checkIndex_2214a : ByteArray := prog_10_method_91_code
def yJ2_checkIndex_2214a : MethodName := ⟨RJ2, "checkIndex", "(I[B)V"⟩
def RJ3 : String := "jdk/internal/util/Preconditions"
def TJ3 : u_T := fun k => match k with
  | _ => ("", "", "", false)
def tyJ3 : Nat → FieldType := fun k => match k with
  | _ => .int
abbrev wsJ30 : List Cond := u_ws RJ3 TJ3 0
theorem nmJ3 : ∀ a, a < 0 → ∀ b, b < 0 → a ≠ b → (TJ3 a).2.1 ≠ (TJ3 b).2.1 := by decide +kernel
theorem tyJ3_ok : ∀ k, k < 0 → parseFieldDescriptor (TJ3 k).2.2.1 = some (tyJ3 k) := by decide +kernel
abbrev cJ3_checkIndex_8e157 : ByteArray := prog_11_method_11_code
def yJ3_checkIndex_8e157 : MethodName := ⟨RJ3, "checkIndex", "(IILjava/util/function/BiFunction;)I"⟩
def RL : String := "BirthStreetLaw"
abbrev cL_law : ByteArray := code
def yL_law : MethodName := ⟨RL, "law", "([I)Z"⟩
theorem inJ6 : ∀ w ∈ wsJ60, w ∈ lw_tbl := by decide +kernel
theorem inJ9 : ∀ w ∈ wsJ90, w ∈ lw_tbl := by decide +kernel
theorem inJ0 : ∀ w ∈ wsJ00, w ∈ lw_tbl := by decide +kernel
theorem inJ1 : ∀ w ∈ wsJ10, w ∈ lw_tbl := by decide +kernel
theorem inJ2 : ∀ w ∈ wsJ20, w ∈ lw_tbl := by decide +kernel
theorem inJ3 : ∀ w ∈ wsJ30, w ∈ lw_tbl := by decide +kernel
abbrev vwCl : List vw_C := [(RX0, TX0, 11), (RX1, TX1, 1), (RX2, TX2, 11), (RX3, TX3, 32)]
