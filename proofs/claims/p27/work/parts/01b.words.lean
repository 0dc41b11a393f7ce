/-- every word of the tables that any state keeps, and the selects of the private methods -/
def gG : List Cond := lw_tbl.filter goodWord
theorem gG_in : ∀ w ∈ gG, w ∈ lw_tbl := fun w h => (List.mem_filter.mp h).1
theorem gG_ok : ∀ w ∈ gG, goodWord w = true := fun w h => (List.mem_filter.mp h).2
theorem gm_t {w : Cond} (h : w ∈ tables_1) (hg : goodWord w = true) : w ∈ gG := List.mem_filter.mpr ⟨List.mem_append_right _ h, hg⟩
theorem gm_s {w : Cond} (h : w ∈ k2_sels lw_privs) (hg : goodWord w = true) : w ∈ gG := List.mem_filter.mpr ⟨List.mem_append_left _ h, hg⟩
theorem gm_1 : (.initialized RL : Cond) ∈ gG := gm_t (List.mem_append_left _ (List.mem_of_getElem? (i := 0) (rfl : tables_1_1[0]? = some _))) rfl
theorem gm_2 : (.initialized RX2 : Cond) ∈ gG := gm_t (List.mem_append_left _ (List.mem_of_getElem? (i := 1) (rfl : tables_1_1[1]? = some _))) rfl
theorem gm_3 : (.initialized RX1 : Cond) ∈ gG := gm_t (List.mem_append_left _ (List.mem_of_getElem? (i := 2) (rfl : tables_1_1[2]? = some _))) rfl
theorem gm_4 : (.initialized RX0 : Cond) ∈ gG := gm_t (List.mem_append_left _ (List.mem_of_getElem? (i := 3) (rfl : tables_1_1[3]? = some _))) rfl
theorem gm_5 : (.initialized RJ0 : Cond) ∈ gG := gm_t (List.mem_append_left _ (List.mem_of_getElem? (i := 4) (rfl : tables_1_1[4]? = some _))) rfl
theorem gm_6 : (.initialized RJ1 : Cond) ∈ gG := gm_t (List.mem_append_left _ (List.mem_of_getElem? (i := 5) (rfl : tables_1_1[5]? = some _))) rfl
theorem gm_7 : (.initialized RJ3 : Cond) ∈ gG := gm_t (List.mem_append_left _ (List.mem_of_getElem? (i := 6) (rfl : tables_1_1[6]? = some _))) rfl
theorem gm_8 : (.initialized RJ2 : Cond) ∈ gG := gm_t (List.mem_append_left _ (List.mem_of_getElem? (i := 7) (rfl : tables_1_1[7]? = some _))) rfl
theorem gm_9 : (.initialized RJ9 : Cond) ∈ gG := gm_t (List.mem_append_left _ (List.mem_of_getElem? (i := 8) (rfl : tables_1_1[8]? = some _))) rfl
theorem gm_10 : (.classLink RL 9 RX2 : Cond) ∈ gG := gm_t (List.mem_append_left _ (List.mem_of_getElem? (i := 9) (rfl : tables_1_1[9]? = some _))) rfl
theorem gm_11 : (.instantiable RX2 11 : Cond) ∈ gG := gm_t (List.mem_append_left _ (List.mem_of_getElem? (i := 10) (rfl : tables_1_1[10]? = some _))) rfl
theorem gm_12 : (.methodLink RL 54 yX2_init : Cond) ∈ gG := gm_t (List.mem_append_left _ (List.mem_of_getElem? (i := 11) (rfl : tables_1_1[11]? = some _))) rfl
theorem gm_13 : (.instanceMethod yX2_init : Cond) ∈ gG := gm_t (List.mem_append_left _ (List.mem_of_getElem? (i := 12) (rfl : tables_1_1[12]? = some _))) rfl
theorem gm_14 : (.code yX2_init cX2_init 1 none : Cond) ∈ gG := gm_t (List.mem_append_left _ (List.mem_of_getElem? (i := 13) (rfl : tables_1_1[13]? = some _))) rfl
theorem gm_15 : (.methodLink RX2 3 objectInit : Cond) ∈ gG := gm_t (List.mem_append_left _ (List.mem_of_getElem? (i := 14) (rfl : tables_1_1[14]? = some _))) rfl
theorem gm_16 : (.instanceMethod objectInit : Cond) ∈ gG := gm_t (List.mem_append_left _ (List.mem_of_getElem? (i := 15) (rfl : tables_1_1[15]? = some _))) rfl
theorem gm_17 : (.code objectInit ⟨#[0xb1]⟩ 1 none : Cond) ∈ gG := gm_t (List.mem_append_left _ (List.mem_of_getElem? (i := 16) (rfl : tables_1_1[16]? = some _))) rfl
theorem gm_18 : (.classLink RX2 9 RX1 : Cond) ∈ gG := gm_t (List.mem_append_left _ (List.mem_of_getElem? (i := 17) (rfl : tables_1_1[17]? = some _))) rfl
theorem gm_19 : (.instantiable RX1 1 : Cond) ∈ gG := gm_t (List.mem_append_left _ (List.mem_of_getElem? (i := 18) (rfl : tables_1_1[18]? = some _))) rfl
theorem gm_20 : (.methodLink RX2 11 yX1_init : Cond) ∈ gG := gm_t (List.mem_append_left _ (List.mem_of_getElem? (i := 19) (rfl : tables_1_1[19]? = some _))) rfl
theorem gm_21 : (.instanceMethod yX1_init : Cond) ∈ gG := gm_t (List.mem_append_left _ (List.mem_of_getElem? (i := 20) (rfl : tables_1_1[20]? = some _))) rfl
theorem gm_22 : (.code yX1_init cX1_init 2 none : Cond) ∈ gG := gm_t (List.mem_append_left _ (List.mem_of_getElem? (i := 21) (rfl : tables_1_1[21]? = some _))) rfl
theorem gm_23 : (.methodLink RX1 1 objectInit : Cond) ∈ gG := gm_t (List.mem_append_left _ (List.mem_of_getElem? (i := 22) (rfl : tables_1_1[22]? = some _))) rfl
theorem gm_24 : (.fieldLink RX1 7 "BirthStreet$Row" "cells" "[I" : Cond) ∈ gG := gm_t (List.mem_append_left _ (List.mem_of_getElem? (i := 23) (rfl : tables_1_1[23]? = some _))) rfl
theorem gm_25 : (.laysFinal RX1 "BirthStreet$Row" "cells" "[I" : Cond) ∈ gG := gm_t (List.mem_append_left _ (List.mem_of_getElem? (i := 24) (rfl : tables_1_1[24]? = some _))) rfl
theorem gm_26 : (.arrayClass .int : Cond) ∈ gG := gm_t (List.mem_append_left _ (List.mem_of_getElem? (i := 27) (rfl : tables_1_1[27]? = some _))) rfl
theorem gm_27 : (.classLink RX2 31 RX0 : Cond) ∈ gG := gm_t (List.mem_append_left _ (List.mem_of_getElem? (i := 28) (rfl : tables_1_1[28]? = some _))) rfl
theorem gm_28 : (.instantiable RX0 11 : Cond) ∈ gG := gm_t (List.mem_append_left _ (List.mem_of_getElem? (i := 29) (rfl : tables_1_1[29]? = some _))) rfl
theorem gn_29 : (.methodLinkNest RX2 33 yX0_init RX2 : Cond) ∈ lw_tbl := List.mem_append_right _ (List.mem_append_left _ (List.mem_of_getElem? (i := 30) (rfl : tables_1_1[30]? = some _)))
theorem gm_30 : (.instanceMethod yX0_init : Cond) ∈ gG := gm_t (List.mem_append_left _ (List.mem_of_getElem? (i := 31) (rfl : tables_1_1[31]? = some _))) rfl
theorem gm_31 : (.code yX0_init cX0_init 1 none : Cond) ∈ gG := gm_t (List.mem_append_left _ (List.mem_of_getElem? (i := 32) (rfl : tables_1_1[32]? = some _))) rfl
theorem gm_32 : (.methodLink RX0 3 objectInit : Cond) ∈ gG := gm_t (List.mem_append_left _ (List.mem_of_getElem? (i := 33) (rfl : tables_1_1[33]? = some _))) rfl
theorem gm_33 : (.classLink RX0 24 RX1 : Cond) ∈ gG := gm_t (List.mem_append_left _ (List.mem_of_getElem? (i := 34) (rfl : tables_1_1[34]? = some _))) rfl
theorem gm_34 : (.methodLink RX0 26 yX1_init : Cond) ∈ gG := gm_t (List.mem_append_left _ (List.mem_of_getElem? (i := 35) (rfl : tables_1_1[35]? = some _))) rfl
theorem gm_35 : (.fieldLink RX0 9 "BirthStreet$Moment" "today" "I" : Cond) ∈ gG := gm_t (List.mem_append_left _ (List.mem_of_getElem? (i := 36) (rfl : tables_1_1[36]? = some _))) rfl
theorem gn_36 : (.fieldLinkNest RX2 112 "BirthStreet$Moment" "today" "I" RX2 : Cond) ∈ lw_tbl := List.mem_append_right _ (List.mem_append_left _ (List.mem_of_getElem? (i := 37) (rfl : tables_1_1[37]? = some _)))
theorem gm_37 : (.fieldLink RX0 15 "BirthStreet$Moment" "births" "I" : Cond) ∈ gG := gm_t (List.mem_append_left _ (List.mem_of_getElem? (i := 38) (rfl : tables_1_1[38]? = some _))) rfl
theorem gn_38 : (.fieldLinkNest RX2 103 "BirthStreet$Moment" "births" "I" RX2 : Cond) ∈ lw_tbl := List.mem_append_right _ (List.mem_append_left _ (List.mem_of_getElem? (i := 39) (rfl : tables_1_1[39]? = some _)))
theorem gm_39 : (.fieldLink RX0 18 "BirthStreet$Moment" "debts" "I" : Cond) ∈ gG := gm_t (List.mem_append_left _ (List.mem_of_getElem? (i := 40) (rfl : tables_1_1[40]? = some _))) rfl
theorem gn_40 : (.fieldLinkNest RX2 139 "BirthStreet$Moment" "debts" "I" RX2 : Cond) ∈ lw_tbl := List.mem_append_right _ (List.mem_append_left _ (List.mem_of_getElem? (i := 41) (rfl : tables_1_1[41]? = some _)))
theorem gm_41 : (.fieldLink RX0 21 "BirthStreet$Moment" "heard" "I" : Cond) ∈ gG := gm_t (List.mem_append_left _ (List.mem_of_getElem? (i := 42) (rfl : tables_1_1[42]? = some _))) rfl
theorem gn_42 : (.fieldLinkNest RX2 162 "BirthStreet$Moment" "heard" "I" RX2 : Cond) ∈ lw_tbl := List.mem_append_right _ (List.mem_append_left _ (List.mem_of_getElem? (i := 43) (rfl : tables_1_1[43]? = some _)))
theorem gm_43 : (.fieldLink RX0 29 "BirthStreet$Moment" "ages" "LBirthStreet$Row;" : Cond) ∈ gG := gm_t (List.mem_append_left _ (List.mem_of_getElem? (i := 44) (rfl : tables_1_1[44]? = some _))) rfl
theorem gn_44 : (.fieldLinkNest RX2 76 "BirthStreet$Moment" "ages" "LBirthStreet$Row;" RX2 : Cond) ∈ lw_tbl := List.mem_append_right _ (List.mem_append_left _ (List.mem_of_getElem? (i := 45) (rfl : tables_1_1[45]? = some _)))
theorem gm_45 : (.fieldLink RX0 33 "BirthStreet$Moment" "pastAges" "LBirthStreet$Row;" : Cond) ∈ gG := gm_t (List.mem_append_left _ (List.mem_of_getElem? (i := 46) (rfl : tables_1_1[46]? = some _))) rfl
theorem gn_46 : (.fieldLinkNest RX2 115 "BirthStreet$Moment" "pastAges" "LBirthStreet$Row;" RX2 : Cond) ∈ lw_tbl := List.mem_append_right _ (List.mem_append_left _ (List.mem_of_getElem? (i := 47) (rfl : tables_1_1[47]? = some _)))
theorem gm_47 : (.fieldLink RX0 36 "BirthStreet$Moment" "birthsIn" "LBirthStreet$Row;" : Cond) ∈ gG := gm_t (List.mem_append_left _ (List.mem_of_getElem? (i := 48) (rfl : tables_1_1[48]? = some _))) rfl
theorem gn_48 : (.fieldLinkNest RX2 86 "BirthStreet$Moment" "birthsIn" "LBirthStreet$Row;" RX2 : Cond) ∈ lw_tbl := List.mem_append_right _ (List.mem_append_left _ (List.mem_of_getElem? (i := 49) (rfl : tables_1_1[49]? = some _)))
theorem gm_49 : (.fieldLink RX0 39 "BirthStreet$Moment" "debtAmounts" "LBirthStreet$Row;" : Cond) ∈ gG := gm_t (List.mem_append_left _ (List.mem_of_getElem? (i := 50) (rfl : tables_1_1[50]? = some _))) rfl
theorem gn_50 : (.fieldLinkNest RX2 142 "BirthStreet$Moment" "debtAmounts" "LBirthStreet$Row;" RX2 : Cond) ∈ lw_tbl := List.mem_append_right _ (List.mem_append_left _ (List.mem_of_getElem? (i := 51) (rfl : tables_1_1[51]? = some _)))
theorem gm_51 : (.fieldLink RX0 42 "BirthStreet$Moment" "debtNumbers" "LBirthStreet$Row;" : Cond) ∈ gG := gm_t (List.mem_append_left _ (List.mem_of_getElem? (i := 52) (rfl : tables_1_1[52]? = some _))) rfl
theorem gn_52 : (.fieldLinkNest RX2 145 "BirthStreet$Moment" "debtNumbers" "LBirthStreet$Row;" RX2 : Cond) ∈ lw_tbl := List.mem_append_right _ (List.mem_append_left _ (List.mem_of_getElem? (i := 53) (rfl : tables_1_1[53]? = some _)))
theorem gm_53 : (.fieldLink RX0 45 "BirthStreet$Moment" "heardHouses" "LBirthStreet$Row;" : Cond) ∈ gG := gm_t (List.mem_append_left _ (List.mem_of_getElem? (i := 54) (rfl : tables_1_1[54]? = some _))) rfl
theorem gm_54 : (.fieldLink RX0 48 "BirthStreet$Moment" "heardNumbers" "LBirthStreet$Row;" : Cond) ∈ gG := gm_t (List.mem_append_left _ (List.mem_of_getElem? (i := 55) (rfl : tables_1_1[55]? = some _))) rfl
theorem gm_55 : (.lays RX0 "BirthStreet$Moment" "today" "I" : Cond) ∈ gG := gm_t (List.mem_append_left _ (List.mem_of_getElem? (i := 56) (rfl : tables_1_1[56]? = some _))) rfl
theorem gm_56 : (.lays RX0 "BirthStreet$Moment" "births" "I" : Cond) ∈ gG := gm_t (List.mem_append_left _ (List.mem_of_getElem? (i := 58) (rfl : tables_1_1[58]? = some _))) rfl
theorem gm_57 : (.lays RX0 "BirthStreet$Moment" "debts" "I" : Cond) ∈ gG := gm_t (List.mem_append_left _ (List.mem_of_getElem? (i := 60) (rfl : tables_1_1[60]? = some _))) rfl
theorem gm_58 : (.lays RX0 "BirthStreet$Moment" "heard" "I" : Cond) ∈ gG := gm_t (List.mem_append_left _ (List.mem_of_getElem? (i := 62) (rfl : tables_1_1[62]? = some _))) rfl
theorem gm_59 : (.laysFinal RX0 "BirthStreet$Moment" "ages" "LBirthStreet$Row;" : Cond) ∈ gG := gm_t (List.mem_append_left _ (List.mem_of_getElem? (i := 64) (rfl : tables_1_1[64]? = some _))) rfl
theorem gm_60 : (.laysFinal RX0 "BirthStreet$Moment" "pastAges" "LBirthStreet$Row;" : Cond) ∈ gG := gm_t (List.mem_append_left _ (List.mem_of_getElem? (i := 66) (rfl : tables_1_1[66]? = some _))) rfl
theorem gm_61 : (.laysFinal RX0 "BirthStreet$Moment" "birthsIn" "LBirthStreet$Row;" : Cond) ∈ gG := gm_t (List.mem_append_left _ (List.mem_of_getElem? (i := 68) (rfl : tables_1_1[68]? = some _))) rfl
theorem gm_62 : (.laysFinal RX0 "BirthStreet$Moment" "debtAmounts" "LBirthStreet$Row;" : Cond) ∈ gG := gm_t (List.mem_append_left _ (List.mem_of_getElem? (i := 70) (rfl : tables_1_1[70]? = some _))) rfl
theorem gm_63 : (.laysFinal RX0 "BirthStreet$Moment" "debtNumbers" "LBirthStreet$Row;" : Cond) ∈ gG := gm_t (List.mem_append_left _ (List.mem_of_getElem? (i := 72) (rfl : tables_1_1[72]? = some _))) rfl
theorem gm_64 : (.laysFinal RX0 "BirthStreet$Moment" "heardHouses" "LBirthStreet$Row;" : Cond) ∈ gG := gm_t (List.mem_append_left _ (List.mem_of_getElem? (i := 74) (rfl : tables_1_1[74]? = some _))) rfl
theorem gm_65 : (.laysFinal RX0 "BirthStreet$Moment" "heardNumbers" "LBirthStreet$Row;" : Cond) ∈ gG := gm_t (List.mem_append_left _ (List.mem_of_getElem? (i := 76) (rfl : tables_1_1[76]? = some _))) rfl
theorem gm_66 : (.fieldLink RX2 14 "BirthStreet" "page" "LBirthStreet$Row;" : Cond) ∈ gG := gm_t (List.mem_append_left _ (List.mem_of_getElem? (i := 79) (rfl : tables_1_1[79]? = some _))) rfl
theorem gm_67 : (.fieldLink RX2 18 "BirthStreet" "letters" "I" : Cond) ∈ gG := gm_t (List.mem_append_left _ (List.mem_of_getElem? (i := 80) (rfl : tables_1_1[80]? = some _))) rfl
theorem gm_68 : (.fieldLink RX2 22 "BirthStreet" "houses" "I" : Cond) ∈ gG := gm_t (List.mem_append_left _ (List.mem_of_getElem? (i := 81) (rfl : tables_1_1[81]? = some _))) rfl
theorem gm_69 : (.fieldLink RX2 25 "BirthStreet" "streetsRead" "I" : Cond) ∈ gG := gm_t (List.mem_append_left _ (List.mem_of_getElem? (i := 82) (rfl : tables_1_1[82]? = some _))) rfl
theorem gm_70 : (.fieldLink RX2 28 "BirthStreet" "kinds" "LBirthStreet$Row;" : Cond) ∈ gG := gm_t (List.mem_append_left _ (List.mem_of_getElem? (i := 83) (rfl : tables_1_1[83]? = some _))) rfl
theorem gm_71 : (.fieldLink RX2 34 "BirthStreet" "now" "LBirthStreet$Moment;" : Cond) ∈ gG := gm_t (List.mem_append_left _ (List.mem_of_getElem? (i := 84) (rfl : tables_1_1[84]? = some _))) rfl
theorem gm_72 : (.fieldLink RX2 38 "BirthStreet" "kept" "LBirthStreet$Moment;" : Cond) ∈ gG := gm_t (List.mem_append_left _ (List.mem_of_getElem? (i := 85) (rfl : tables_1_1[85]? = some _))) rfl
theorem gm_73 : (.fieldLink RX2 41 "BirthStreet" "isKept" "Z" : Cond) ∈ gG := gm_t (List.mem_append_left _ (List.mem_of_getElem? (i := 86) (rfl : tables_1_1[86]? = some _))) rfl
theorem gm_74 : (.fieldLink RX2 45 "BirthStreet" "wouldBe" "LBirthStreet$Row;" : Cond) ∈ gG := gm_t (List.mem_append_left _ (List.mem_of_getElem? (i := 87) (rfl : tables_1_1[87]? = some _))) rfl
theorem gm_75 : (.fieldLink RX2 48 "BirthStreet" "possible" "LBirthStreet$Row;" : Cond) ∈ gG := gm_t (List.mem_append_left _ (List.mem_of_getElem? (i := 88) (rfl : tables_1_1[88]? = some _))) rfl
theorem gm_76 : (.fieldLink RX2 51 "BirthStreet" "tally" "LBirthStreet$Row;" : Cond) ∈ gG := gm_t (List.mem_append_left _ (List.mem_of_getElem? (i := 89) (rfl : tables_1_1[89]? = some _))) rfl
theorem gm_77 : (.laysFinal RX2 "BirthStreet" "page" "LBirthStreet$Row;" : Cond) ∈ gG := gm_t (List.mem_append_left _ (List.mem_of_getElem? (i := 90) (rfl : tables_1_1[90]? = some _))) rfl
theorem gm_78 : (.lays RX2 "BirthStreet" "letters" "I" : Cond) ∈ gG := gm_t (List.mem_append_left _ (List.mem_of_getElem? (i := 92) (rfl : tables_1_1[92]? = some _))) rfl
theorem gm_79 : (.lays RX2 "BirthStreet" "houses" "I" : Cond) ∈ gG := gm_t (List.mem_append_left _ (List.mem_of_getElem? (i := 94) (rfl : tables_1_1[94]? = some _))) rfl
theorem gm_80 : (.lays RX2 "BirthStreet" "streetsRead" "I" : Cond) ∈ gG := gm_t (List.mem_append_left _ (List.mem_of_getElem? (i := 96) (rfl : tables_1_1[96]? = some _))) rfl
theorem gm_81 : (.laysFinal RX2 "BirthStreet" "kinds" "LBirthStreet$Row;" : Cond) ∈ gG := gm_t (List.mem_append_left _ (List.mem_of_getElem? (i := 98) (rfl : tables_1_1[98]? = some _))) rfl
theorem gm_82 : (.laysFinal RX2 "BirthStreet" "now" "LBirthStreet$Moment;" : Cond) ∈ gG := gm_t (List.mem_append_left _ (List.mem_of_getElem? (i := 100) (rfl : tables_1_1[100]? = some _))) rfl
theorem gm_83 : (.laysFinal RX2 "BirthStreet" "kept" "LBirthStreet$Moment;" : Cond) ∈ gG := gm_t (List.mem_append_left _ (List.mem_of_getElem? (i := 102) (rfl : tables_1_1[102]? = some _))) rfl
theorem gm_84 : (.lays RX2 "BirthStreet" "isKept" "Z" : Cond) ∈ gG := gm_t (List.mem_append_left _ (List.mem_of_getElem? (i := 104) (rfl : tables_1_1[104]? = some _))) rfl
theorem gm_85 : (.laysFinal RX2 "BirthStreet" "wouldBe" "LBirthStreet$Row;" : Cond) ∈ gG := gm_t (List.mem_append_left _ (List.mem_of_getElem? (i := 106) (rfl : tables_1_1[106]? = some _))) rfl
theorem gm_86 : (.laysFinal RX2 "BirthStreet" "possible" "LBirthStreet$Row;" : Cond) ∈ gG := gm_t (List.mem_append_left _ (List.mem_of_getElem? (i := 108) (rfl : tables_1_1[108]? = some _))) rfl
theorem gm_87 : (.laysFinal RX2 "BirthStreet" "tally" "LBirthStreet$Row;" : Cond) ∈ gG := gm_t (List.mem_append_left _ (List.mem_of_getElem? (i := 110) (rfl : tables_1_1[110]? = some _))) rfl
theorem gm_88 : (.methodLink RL 71 yX2_about : Cond) ∈ gG := gm_t (List.mem_append_left _ (List.mem_of_getElem? (i := 113) (rfl : tables_1_1[113]? = some _))) rfl
theorem gm_89 : (.instanceMethod yX2_about : Cond) ∈ gG := gm_t (List.mem_append_left _ (List.mem_of_getElem? (i := 114) (rfl : tables_1_1[114]? = some _))) rfl
theorem gm_90 : (.selects RX2 yX2_about yX2_about : Cond) ∈ gG := gm_t (List.mem_append_left _ (List.mem_of_getElem? (i := 115) (rfl : tables_1_1[115]? = some _))) rfl
theorem gm_91 : (.code yX2_about cX2_about 3 (some .int) : Cond) ∈ gG := gm_t (List.mem_append_left _ (List.mem_of_getElem? (i := 116) (rfl : tables_1_1[116]? = some _))) rfl
theorem gm_92 : (.methodLink RX2 79 yX2_isHouse : Cond) ∈ gG := gm_t (List.mem_append_left _ (List.mem_of_getElem? (i := 117) (rfl : tables_1_1[117]? = some _))) rfl
theorem gm_93 : (.instanceMethod yX2_isHouse : Cond) ∈ gG := gm_t (List.mem_append_left _ (List.mem_of_getElem? (i := 119) (rfl : tables_1_1[119]? = some _))) rfl
theorem gm_94 : (.code yX2_isHouse cX2_isHouse 2 (some .boolean) : Cond) ∈ gG := gm_t (List.mem_append_left _ (List.mem_of_getElem? (i := 120) (rfl : tables_1_1[120]? = some _))) rfl
theorem gm_95 : (.methodLink RX2 58 yX1_at : Cond) ∈ gG := gm_t (List.mem_append_left _ (List.mem_of_getElem? (i := 121) (rfl : tables_1_1[121]? = some _))) rfl
theorem gm_96 : (.instanceMethod yX1_at : Cond) ∈ gG := gm_t (List.mem_append_left _ (List.mem_of_getElem? (i := 122) (rfl : tables_1_1[122]? = some _))) rfl
theorem gm_97 : (.selects RX1 yX1_at yX1_at : Cond) ∈ gG := gm_t (List.mem_append_left _ (List.mem_of_getElem? (i := 123) (rfl : tables_1_1[123]? = some _))) rfl
theorem gm_98 : (.code yX1_at cX1_at 2 (some .int) : Cond) ∈ gG := gm_t (List.mem_append_left _ (List.mem_of_getElem? (i := 124) (rfl : tables_1_1[124]? = some _))) rfl
theorem gm_99 : (.methodLink RX2 83 yX2_numberNow : Cond) ∈ gG := gm_t (List.mem_append_left _ (List.mem_of_getElem? (i := 125) (rfl : tables_1_1[125]? = some _))) rfl
theorem gm_100 : (.instanceMethod yX2_numberNow : Cond) ∈ gG := gm_t (List.mem_append_left _ (List.mem_of_getElem? (i := 127) (rfl : tables_1_1[127]? = some _))) rfl
theorem gm_101 : (.code yX2_numberNow cX2_numberNow 2 (some .int) : Cond) ∈ gG := gm_t (List.mem_append_left _ (List.mem_of_getElem? (i := 128) (rfl : tables_1_1[128]? = some _))) rfl
theorem gm_102 : (.methodLink RX2 247 yX2_numberAt : Cond) ∈ gG := gm_t (List.mem_append_left _ (List.mem_of_getElem? (i := 129) (rfl : tables_1_1[129]? = some _))) rfl
theorem gm_103 : (.instanceMethod yX2_numberAt : Cond) ∈ gG := gm_t (List.mem_append_left _ (List.mem_of_getElem? (i := 131) (rfl : tables_1_1[131]? = some _))) rfl
theorem gm_104 : (.code yX2_numberAt cX2_numberAt 3 (some .int) : Cond) ∈ gG := gm_t (List.mem_append_left _ (List.mem_of_getElem? (i := 132) (rfl : tables_1_1[132]? = some _))) rfl
theorem gm_105 : (.methodLink RX2 156 yX2_numberOf : Cond) ∈ gG := gm_t (List.mem_append_left _ (List.mem_of_getElem? (i := 133) (rfl : tables_1_1[133]? = some _))) rfl
theorem gm_106 : (.static yX2_numberOf : Cond) ∈ gG := gm_t (List.mem_append_left _ (List.mem_of_getElem? (i := 134) (rfl : tables_1_1[134]? = some _))) rfl
theorem gm_107 : (.code yX2_numberOf cX2_numberOf 2 (some .int) : Cond) ∈ gG := gm_t (List.mem_append_left _ (List.mem_of_getElem? (i := 135) (rfl : tables_1_1[135]? = some _))) rfl
theorem gm_108 : (.methodLink RX2 89 yX2_owedBy : Cond) ∈ gG := gm_t (List.mem_append_left _ (List.mem_of_getElem? (i := 136) (rfl : tables_1_1[136]? = some _))) rfl
theorem gm_109 : (.instanceMethod yX2_owedBy : Cond) ∈ gG := gm_t (List.mem_append_left _ (List.mem_of_getElem? (i := 138) (rfl : tables_1_1[138]? = some _))) rfl
theorem gm_110 : (.code yX2_owedBy cX2_owedBy 4 (some .int) : Cond) ∈ gG := gm_t (List.mem_append_left _ (List.mem_of_getElem? (i := 139) (rfl : tables_1_1[139]? = some _))) rfl
theorem gm_111 : (.methodLink RX2 132 yX2_houseWith : Cond) ∈ gG := gm_t (List.mem_append_left _ (List.mem_of_getElem? (i := 140) (rfl : tables_1_1[140]? = some _))) rfl
theorem gm_112 : (.instanceMethod yX2_houseWith : Cond) ∈ gG := gm_t (List.mem_append_left _ (List.mem_of_getElem? (i := 142) (rfl : tables_1_1[142]? = some _))) rfl
theorem gm_113 : (.code yX2_houseWith cX2_houseWith 4 (some .int) : Cond) ∈ gG := gm_t (List.mem_append_left _ (List.mem_of_getElem? (i := 143) (rfl : tables_1_1[143]? = some _))) rfl
theorem gm_114 : (.methodLink RX2 129 yX2_numberOn : Cond) ∈ gG := gm_t (List.mem_append_left _ (List.mem_of_getElem? (i := 144) (rfl : tables_1_1[144]? = some _))) rfl
theorem gm_115 : (.instanceMethod yX2_numberOn : Cond) ∈ gG := gm_t (List.mem_append_left _ (List.mem_of_getElem? (i := 146) (rfl : tables_1_1[146]? = some _))) rfl
theorem gm_116 : (.code yX2_numberOn cX2_numberOn 4 (some .int) : Cond) ∈ gG := gm_t (List.mem_append_left _ (List.mem_of_getElem? (i := 147) (rfl : tables_1_1[147]? = some _))) rfl
theorem gm_117 : (.methodLink RX2 118 yX2_cellOf : Cond) ∈ gG := gm_t (List.mem_append_left _ (List.mem_of_getElem? (i := 148) (rfl : tables_1_1[148]? = some _))) rfl
theorem gm_118 : (.static yX2_cellOf : Cond) ∈ gG := gm_t (List.mem_append_left _ (List.mem_of_getElem? (i := 149) (rfl : tables_1_1[149]? = some _))) rfl
theorem gm_119 : (.code yX2_cellOf cX2_cellOf 2 (some .int) : Cond) ∈ gG := gm_t (List.mem_append_left _ (List.mem_of_getElem? (i := 150) (rfl : tables_1_1[150]? = some _))) rfl
theorem gm_120 : (.methodLink RX2 92 yX2_turnInWalk : Cond) ∈ gG := gm_t (List.mem_append_left _ (List.mem_of_getElem? (i := 151) (rfl : tables_1_1[151]? = some _))) rfl
theorem gm_121 : (.instanceMethod yX2_turnInWalk : Cond) ∈ gG := gm_t (List.mem_append_left _ (List.mem_of_getElem? (i := 153) (rfl : tables_1_1[153]? = some _))) rfl
theorem gm_122 : (.code yX2_turnInWalk cX2_turnInWalk 7 (some .int) : Cond) ∈ gG := gm_t (List.mem_append_left _ (List.mem_of_getElem? (i := 154) (rfl : tables_1_1[154]? = some _))) rfl
theorem gm_123 : (.methodLink RL 86 yX2_as : Cond) ∈ gG := gm_t (List.mem_append_left _ (List.mem_of_getElem? (i := 155) (rfl : tables_1_1[155]? = some _))) rfl
theorem gm_124 : (.instanceMethod yX2_as : Cond) ∈ gG := gm_t (List.mem_append_left _ (List.mem_of_getElem? (i := 156) (rfl : tables_1_1[156]? = some _))) rfl
theorem gm_125 : (.selects RX2 yX2_as yX2_as : Cond) ∈ gG := gm_t (List.mem_append_left _ (List.mem_of_getElem? (i := 157) (rfl : tables_1_1[157]? = some _))) rfl
theorem gm_126 : (.code yX2_as cX2_as 3 (some .int) : Cond) ∈ gG := gm_t (List.mem_append_left _ (List.mem_of_getElem? (i := 158) (rfl : tables_1_1[158]? = some _))) rfl
theorem gm_127 : (.methodLink RX2 96 yX2_isA : Cond) ∈ gG := gm_t (List.mem_append_left _ (List.mem_of_getElem? (i := 159) (rfl : tables_1_1[159]? = some _))) rfl
theorem gm_128 : (.static yX2_isA : Cond) ∈ gG := gm_t (List.mem_append_left _ (List.mem_of_getElem? (i := 160) (rfl : tables_1_1[160]? = some _))) rfl
theorem gm_129 : (.code yX2_isA cX2_isA 2 (some .boolean) : Cond) ∈ gG := gm_t (List.mem_append_left _ (List.mem_of_getElem? (i := 161) (rfl : tables_1_1[161]? = some _))) rfl
theorem gm_130 : (.methodLink RL 41 yX2_birth : Cond) ∈ gG := gm_t (List.mem_append_left _ (List.mem_of_getElem? (i := 162) (rfl : tables_1_1[162]? = some _))) rfl
theorem gm_131 : (.instanceMethod yX2_birth : Cond) ∈ gG := gm_t (List.mem_append_left _ (List.mem_of_getElem? (i := 163) (rfl : tables_1_1[163]? = some _))) rfl
theorem gm_132 : (.selects RX2 yX2_birth yX2_birth : Cond) ∈ gG := gm_t (List.mem_append_left _ (List.mem_of_getElem? (i := 164) (rfl : tables_1_1[164]? = some _))) rfl
theorem gm_133 : (.code yX2_birth cX2_birth 2 (some .int) : Cond) ∈ gG := gm_t (List.mem_append_left _ (List.mem_of_getElem? (i := 165) (rfl : tables_1_1[165]? = some _))) rfl
theorem gm_134 : (.methodLink RX2 99 yX2_bear : Cond) ∈ gG := gm_t (List.mem_append_left _ (List.mem_of_getElem? (i := 166) (rfl : tables_1_1[166]? = some _))) rfl
theorem gm_135 : (.instanceMethod yX2_bear : Cond) ∈ gG := gm_t (List.mem_append_left _ (List.mem_of_getElem? (i := 168) (rfl : tables_1_1[168]? = some _))) rfl
theorem gm_136 : (.code yX2_bear cX2_bear 3 none : Cond) ∈ gG := gm_t (List.mem_append_left _ (List.mem_of_getElem? (i := 169) (rfl : tables_1_1[169]? = some _))) rfl
theorem gm_137 : (.methodLink RX2 54 yX1_put : Cond) ∈ gG := gm_t (List.mem_append_left _ (List.mem_of_getElem? (i := 170) (rfl : tables_1_1[170]? = some _))) rfl
theorem gm_138 : (.instanceMethod yX1_put : Cond) ∈ gG := gm_t (List.mem_append_left _ (List.mem_of_getElem? (i := 171) (rfl : tables_1_1[171]? = some _))) rfl
theorem gm_139 : (.selects RX1 yX1_put yX1_put : Cond) ∈ gG := gm_t (List.mem_append_left _ (List.mem_of_getElem? (i := 172) (rfl : tables_1_1[172]? = some _))) rfl
theorem gm_140 : (.code yX1_put cX1_put 3 none : Cond) ∈ gG := gm_t (List.mem_append_left _ (List.mem_of_getElem? (i := 173) (rfl : tables_1_1[173]? = some _))) rfl
theorem gm_141 : (.methodLink RX2 109 yX2_lendsACradle : Cond) ∈ gG := gm_t (List.mem_append_left _ (List.mem_of_getElem? (i := 174) (rfl : tables_1_1[174]? = some _))) rfl
theorem gm_142 : (.instanceMethod yX2_lendsACradle : Cond) ∈ gG := gm_t (List.mem_append_left _ (List.mem_of_getElem? (i := 176) (rfl : tables_1_1[176]? = some _))) rfl
theorem gm_143 : (.code yX2_lendsACradle cX2_lendsACradle 2 (some .boolean) : Cond) ∈ gG := gm_t (List.mem_append_left _ (List.mem_of_getElem? (i := 177) (rfl : tables_1_1[177]? = some _))) rfl
theorem gm_144 : (.methodLink RX2 106 yX1_add : Cond) ∈ gG := gm_t (List.mem_append_left _ (List.mem_of_getElem? (i := 178) (rfl : tables_1_1[178]? = some _))) rfl
theorem gm_145 : (.instanceMethod yX1_add : Cond) ∈ gG := gm_t (List.mem_append_left _ (List.mem_of_getElem? (i := 179) (rfl : tables_1_1[179]? = some _))) rfl
theorem gm_146 : (.selects RX1 yX1_add yX1_add : Cond) ∈ gG := gm_t (List.mem_append_left _ (List.mem_of_getElem? (i := 180) (rfl : tables_1_1[180]? = some _))) rfl
theorem gm_147 : (.code yX1_add cX1_add 3 none : Cond) ∈ gG := gm_t (List.mem_append_left _ (List.mem_of_getElem? (i := 181) (rfl : tables_1_1[181]? = some _))) rfl
theorem gm_148 : (.methodLink RX1 13 yX1_at : Cond) ∈ gG := gm_t (List.mem_append_left _ (List.mem_of_getElem? (i := 182) (rfl : tables_1_1[182]? = some _))) rfl
theorem gm_149 : (.methodLink RX1 17 yX1_put : Cond) ∈ gG := gm_t (List.mem_append_left _ (List.mem_of_getElem? (i := 183) (rfl : tables_1_1[183]? = some _))) rfl
theorem gm_150 : (.methodLink RL 47 yX2_day : Cond) ∈ gG := gm_t (List.mem_append_left _ (List.mem_of_getElem? (i := 184) (rfl : tables_1_1[184]? = some _))) rfl
theorem gm_151 : (.instanceMethod yX2_day : Cond) ∈ gG := gm_t (List.mem_append_left _ (List.mem_of_getElem? (i := 185) (rfl : tables_1_1[185]? = some _))) rfl
theorem gm_152 : (.selects RX2 yX2_day yX2_day : Cond) ∈ gG := gm_t (List.mem_append_left _ (List.mem_of_getElem? (i := 186) (rfl : tables_1_1[186]? = some _))) rfl
theorem gm_153 : (.code yX2_day cX2_day 2 (some .int) : Cond) ∈ gG := gm_t (List.mem_append_left _ (List.mem_of_getElem? (i := 187) (rfl : tables_1_1[187]? = some _))) rfl
theorem gm_154 : (.methodLink RX2 122 yX2_growOlder : Cond) ∈ gG := gm_t (List.mem_append_left _ (List.mem_of_getElem? (i := 188) (rfl : tables_1_1[188]? = some _))) rfl
theorem gm_155 : (.instanceMethod yX2_growOlder : Cond) ∈ gG := gm_t (List.mem_append_left _ (List.mem_of_getElem? (i := 190) (rfl : tables_1_1[190]? = some _))) rfl
theorem gm_156 : (.code yX2_growOlder cX2_growOlder 3 none : Cond) ∈ gG := gm_t (List.mem_append_left _ (List.mem_of_getElem? (i := 191) (rfl : tables_1_1[191]? = some _))) rfl
theorem gm_157 : (.methodLink RX2 159 yX2_ageNextDay : Cond) ∈ gG := gm_t (List.mem_append_left _ (List.mem_of_getElem? (i := 192) (rfl : tables_1_1[192]? = some _))) rfl
theorem gm_158 : (.static yX2_ageNextDay : Cond) ∈ gG := gm_t (List.mem_append_left _ (List.mem_of_getElem? (i := 193) (rfl : tables_1_1[193]? = some _))) rfl
theorem gm_159 : (.code yX2_ageNextDay cX2_ageNextDay 2 (some .int) : Cond) ∈ gG := gm_t (List.mem_append_left _ (List.mem_of_getElem? (i := 194) (rfl : tables_1_1[194]? = some _))) rfl
theorem gm_160 : (.methodLink RL 77 yX2_then : Cond) ∈ gG := gm_t (List.mem_append_left _ (List.mem_of_getElem? (i := 195) (rfl : tables_1_1[195]? = some _))) rfl
theorem gm_161 : (.instanceMethod yX2_then : Cond) ∈ gG := gm_t (List.mem_append_left _ (List.mem_of_getElem? (i := 196) (rfl : tables_1_1[196]? = some _))) rfl
theorem gm_162 : (.selects RX2 yX2_then yX2_then : Cond) ∈ gG := gm_t (List.mem_append_left _ (List.mem_of_getElem? (i := 197) (rfl : tables_1_1[197]? = some _))) rfl
theorem gm_163 : (.code yX2_then cX2_then 3 (some .int) : Cond) ∈ gG := gm_t (List.mem_append_left _ (List.mem_of_getElem? (i := 198) (rfl : tables_1_1[198]? = some _))) rfl
theorem gm_164 : (.methodLink RX2 126 yX2_isDay : Cond) ∈ gG := gm_t (List.mem_append_left _ (List.mem_of_getElem? (i := 199) (rfl : tables_1_1[199]? = some _))) rfl
theorem gm_165 : (.instanceMethod yX2_isDay : Cond) ∈ gG := gm_t (List.mem_append_left _ (List.mem_of_getElem? (i := 201) (rfl : tables_1_1[201]? = some _))) rfl
theorem gm_166 : (.code yX2_isDay cX2_isDay 2 (some .boolean) : Cond) ∈ gG := gm_t (List.mem_append_left _ (List.mem_of_getElem? (i := 202) (rfl : tables_1_1[202]? = some _))) rfl
theorem gm_167 : (.methodLink RL 83 yX2_goesTo : Cond) ∈ gG := gm_t (List.mem_append_left _ (List.mem_of_getElem? (i := 203) (rfl : tables_1_1[203]? = some _))) rfl
theorem gm_168 : (.instanceMethod yX2_goesTo : Cond) ∈ gG := gm_t (List.mem_append_left _ (List.mem_of_getElem? (i := 204) (rfl : tables_1_1[204]? = some _))) rfl
theorem gm_169 : (.selects RX2 yX2_goesTo yX2_goesTo : Cond) ∈ gG := gm_t (List.mem_append_left _ (List.mem_of_getElem? (i := 205) (rfl : tables_1_1[205]? = some _))) rfl
theorem gm_170 : (.code yX2_goesTo cX2_goesTo 3 (some .int) : Cond) ∈ gG := gm_t (List.mem_append_left _ (List.mem_of_getElem? (i := 206) (rfl : tables_1_1[206]? = some _))) rfl
theorem gm_171 : (.methodLink RL 92 yX2_walk : Cond) ∈ gG := gm_t (List.mem_append_left _ (List.mem_of_getElem? (i := 207) (rfl : tables_1_1[207]? = some _))) rfl
theorem gm_172 : (.instanceMethod yX2_walk : Cond) ∈ gG := gm_t (List.mem_append_left _ (List.mem_of_getElem? (i := 208) (rfl : tables_1_1[208]? = some _))) rfl
theorem gm_173 : (.selects RX2 yX2_walk yX2_walk : Cond) ∈ gG := gm_t (List.mem_append_left _ (List.mem_of_getElem? (i := 209) (rfl : tables_1_1[209]? = some _))) rfl
theorem gm_174 : (.code yX2_walk cX2_walk 1 (some .int) : Cond) ∈ gG := gm_t (List.mem_append_left _ (List.mem_of_getElem? (i := 210) (rfl : tables_1_1[210]? = some _))) rfl
theorem gm_175 : (.methodLink RX2 135 yX2_lengthOfWalk : Cond) ∈ gG := gm_t (List.mem_append_left _ (List.mem_of_getElem? (i := 211) (rfl : tables_1_1[211]? = some _))) rfl
theorem gm_176 : (.instanceMethod yX2_lengthOfWalk : Cond) ∈ gG := gm_t (List.mem_append_left _ (List.mem_of_getElem? (i := 213) (rfl : tables_1_1[213]? = some _))) rfl
theorem gm_177 : (.code yX2_lengthOfWalk cX2_lengthOfWalk 6 (some .int) : Cond) ∈ gG := gm_t (List.mem_append_left _ (List.mem_of_getElem? (i := 214) (rfl : tables_1_1[214]? = some _))) rfl
theorem gm_178 : (.methodLink RX2 250 yX2_houseOfTurn : Cond) ∈ gG := gm_t (List.mem_append_left _ (List.mem_of_getElem? (i := 215) (rfl : tables_1_1[215]? = some _))) rfl
theorem gm_179 : (.instanceMethod yX2_houseOfTurn : Cond) ∈ gG := gm_t (List.mem_append_left _ (List.mem_of_getElem? (i := 217) (rfl : tables_1_1[217]? = some _))) rfl
theorem gm_180 : (.code yX2_houseOfTurn cX2_houseOfTurn 4 (some .int) : Cond) ∈ gG := gm_t (List.mem_append_left _ (List.mem_of_getElem? (i := 218) (rfl : tables_1_1[218]? = some _))) rfl
theorem gm_181 : (.methodLink RX2 253 yJ9_abs_0f7a4 : Cond) ∈ gG := gm_t (List.mem_append_left _ (List.mem_of_getElem? (i := 219) (rfl : tables_1_1[219]? = some _))) rfl
theorem gm_182 : (.static yJ9_abs_0f7a4 : Cond) ∈ gG := gm_t (List.mem_append_left _ (List.mem_of_getElem? (i := 220) (rfl : tables_1_1[220]? = some _))) rfl
theorem gm_183 : (.code yJ9_abs_0f7a4 cJ9_abs_0f7a4 1 (some .int) : Cond) ∈ gG := gm_t (List.mem_append_left _ (List.mem_of_getElem? (i := 221) (rfl : tables_1_1[221]? = some _))) rfl
theorem gm_184 : (.methodLink RL 68 yX2_debt : Cond) ∈ gG := gm_t (List.mem_append_left _ (List.mem_of_getElem? (i := 222) (rfl : tables_1_1[222]? = some _))) rfl
theorem gm_185 : (.instanceMethod yX2_debt : Cond) ∈ gG := gm_t (List.mem_append_left _ (List.mem_of_getElem? (i := 223) (rfl : tables_1_1[223]? = some _))) rfl
theorem gm_186 : (.selects RX2 yX2_debt yX2_debt : Cond) ∈ gG := gm_t (List.mem_append_left _ (List.mem_of_getElem? (i := 224) (rfl : tables_1_1[224]? = some _))) rfl
theorem gm_187 : (.code yX2_debt cX2_debt 3 (some .int) : Cond) ∈ gG := gm_t (List.mem_append_left _ (List.mem_of_getElem? (i := 225) (rfl : tables_1_1[225]? = some _))) rfl
theorem gm_188 : (.methodLink RL 61 yX2_pay : Cond) ∈ gG := gm_t (List.mem_append_left _ (List.mem_of_getElem? (i := 226) (rfl : tables_1_1[226]? = some _))) rfl
theorem gm_189 : (.instanceMethod yX2_pay : Cond) ∈ gG := gm_t (List.mem_append_left _ (List.mem_of_getElem? (i := 227) (rfl : tables_1_1[227]? = some _))) rfl
theorem gm_190 : (.selects RX2 yX2_pay yX2_pay : Cond) ∈ gG := gm_t (List.mem_append_left _ (List.mem_of_getElem? (i := 228) (rfl : tables_1_1[228]? = some _))) rfl
theorem gm_191 : (.code yX2_pay cX2_pay 3 (some .int) : Cond) ∈ gG := gm_t (List.mem_append_left _ (List.mem_of_getElem? (i := 229) (rfl : tables_1_1[229]? = some _))) rfl
theorem gm_192 : (.methodLink RL 89 yX2_when : Cond) ∈ gG := gm_t (List.mem_append_left _ (List.mem_of_getElem? (i := 230) (rfl : tables_1_1[230]? = some _))) rfl
theorem gm_193 : (.instanceMethod yX2_when : Cond) ∈ gG := gm_t (List.mem_append_left _ (List.mem_of_getElem? (i := 231) (rfl : tables_1_1[231]? = some _))) rfl
theorem gm_194 : (.selects RX2 yX2_when yX2_when : Cond) ∈ gG := gm_t (List.mem_append_left _ (List.mem_of_getElem? (i := 232) (rfl : tables_1_1[232]? = some _))) rfl
theorem gm_195 : (.code yX2_when cX2_when 6 (some .int) : Cond) ∈ gG := gm_t (List.mem_append_left _ (List.mem_of_getElem? (i := 233) (rfl : tables_1_1[233]? = some _))) rfl
theorem gm_196 : (.methodLink RL 116 yX2_years : Cond) ∈ gG := gm_t (List.mem_append_left _ (List.mem_of_getElem? (i := 234) (rfl : tables_1_1[234]? = some _))) rfl
theorem gm_197 : (.instanceMethod yX2_years : Cond) ∈ gG := gm_t (List.mem_append_left _ (List.mem_of_getElem? (i := 235) (rfl : tables_1_1[235]? = some _))) rfl
theorem gm_198 : (.selects RX2 yX2_years yX2_years : Cond) ∈ gG := gm_t (List.mem_append_left _ (List.mem_of_getElem? (i := 236) (rfl : tables_1_1[236]? = some _))) rfl
theorem gm_199 : (.code yX2_years cX2_years 7 (some .int) : Cond) ∈ gG := gm_t (List.mem_append_left _ (List.mem_of_getElem? (i := 237) (rfl : tables_1_1[237]? = some _))) rfl
theorem gm_200 : (.methodLink RX2 180 yX1_take : Cond) ∈ gG := gm_t (List.mem_append_left _ (List.mem_of_getElem? (i := 238) (rfl : tables_1_1[238]? = some _))) rfl
theorem gm_201 : (.instanceMethod yX1_take : Cond) ∈ gG := gm_t (List.mem_append_left _ (List.mem_of_getElem? (i := 239) (rfl : tables_1_1[239]? = some _))) rfl
theorem gm_202 : (.selects RX1 yX1_take yX1_take : Cond) ∈ gG := gm_t (List.mem_append_right _ (List.mem_of_getElem? (i := 0) (rfl : tables_1_2[0]? = some _))) rfl
theorem gm_203 : (.code yX1_take cX1_take 3 none : Cond) ∈ gG := gm_t (List.mem_append_right _ (List.mem_of_getElem? (i := 1) (rfl : tables_1_2[1]? = some _))) rfl
theorem gm_204 : (.methodLink RX2 183 yX2_nextSeed : Cond) ∈ gG := gm_t (List.mem_append_right _ (List.mem_of_getElem? (i := 2) (rfl : tables_1_2[2]? = some _))) rfl
theorem gm_205 : (.static yX2_nextSeed : Cond) ∈ gG := gm_t (List.mem_append_right _ (List.mem_of_getElem? (i := 3) (rfl : tables_1_2[3]? = some _))) rfl
theorem gm_206 : (.code yX2_nextSeed cX2_nextSeed 1 (some .int) : Cond) ∈ gG := gm_t (List.mem_append_right _ (List.mem_of_getElem? (i := 4) (rfl : tables_1_2[4]? = some _))) rfl
theorem gm_207 : (.constantLong RX2 273 (1103515245 : Int64) : Cond) ∈ gG := gm_t (List.mem_append_right _ (List.mem_of_getElem? (i := 5) (rfl : tables_1_2[5]? = some _))) rfl
theorem gm_208 : (.constantLong RX2 275 (12345 : Int64) : Cond) ∈ gG := gm_t (List.mem_append_right _ (List.mem_of_getElem? (i := 6) (rfl : tables_1_2[6]? = some _))) rfl
theorem gm_209 : (.constantLong RX2 277 (2147483648 : Int64) : Cond) ∈ gG := gm_t (List.mem_append_right _ (List.mem_of_getElem? (i := 7) (rfl : tables_1_2[7]? = some _))) rfl
theorem gm_210 : (.methodLink RX2 186 yX2_drawnHouse : Cond) ∈ gG := gm_t (List.mem_append_right _ (List.mem_of_getElem? (i := 8) (rfl : tables_1_2[8]? = some _))) rfl
theorem gm_211 : (.instanceMethod yX2_drawnHouse : Cond) ∈ gG := gm_t (List.mem_append_right _ (List.mem_of_getElem? (i := 10) (rfl : tables_1_2[10]? = some _))) rfl
theorem gm_212 : (.code yX2_drawnHouse cX2_drawnHouse 2 (some .int) : Cond) ∈ gG := gm_t (List.mem_append_right _ (List.mem_of_getElem? (i := 11) (rfl : tables_1_2[11]? = some _))) rfl
theorem gm_213 : (.constant RX2 279 (65536 : Int32) : Cond) ∈ gG := gm_t (List.mem_append_right _ (List.mem_of_getElem? (i := 12) (rfl : tables_1_2[12]? = some _))) rfl
theorem gm_214 : (.methodLink RX2 189 yX2_bearIfMayBe : Cond) ∈ gG := gm_t (List.mem_append_right _ (List.mem_of_getElem? (i := 13) (rfl : tables_1_2[13]? = some _))) rfl
theorem gm_215 : (.instanceMethod yX2_bearIfMayBe : Cond) ∈ gG := gm_t (List.mem_append_right _ (List.mem_of_getElem? (i := 15) (rfl : tables_1_2[15]? = some _))) rfl
theorem gm_216 : (.code yX2_bearIfMayBe cX2_bearIfMayBe 3 none : Cond) ∈ gG := gm_t (List.mem_append_right _ (List.mem_of_getElem? (i := 16) (rfl : tables_1_2[16]? = some _))) rfl
theorem gm_217 : (.methodLink RX2 192 yX2_allNumbers : Cond) ∈ gG := gm_t (List.mem_append_right _ (List.mem_of_getElem? (i := 17) (rfl : tables_1_2[17]? = some _))) rfl
theorem gm_218 : (.instanceMethod yX2_allNumbers : Cond) ∈ gG := gm_t (List.mem_append_right _ (List.mem_of_getElem? (i := 19) (rfl : tables_1_2[19]? = some _))) rfl
theorem gm_219 : (.code yX2_allNumbers cX2_allNumbers 4 (some .int) : Cond) ∈ gG := gm_t (List.mem_append_right _ (List.mem_of_getElem? (i := 20) (rfl : tables_1_2[20]? = some _))) rfl
theorem gm_220 : (.methodLink RL 98 yX2_count : Cond) ∈ gG := gm_t (List.mem_append_right _ (List.mem_of_getElem? (i := 21) (rfl : tables_1_2[21]? = some _))) rfl
theorem gm_221 : (.instanceMethod yX2_count : Cond) ∈ gG := gm_t (List.mem_append_right _ (List.mem_of_getElem? (i := 22) (rfl : tables_1_2[22]? = some _))) rfl
theorem gm_222 : (.selects RX2 yX2_count yX2_count : Cond) ∈ gG := gm_t (List.mem_append_right _ (List.mem_of_getElem? (i := 23) (rfl : tables_1_2[23]? = some _))) rfl
theorem gm_223 : (.code yX2_count cX2_count 2 (some .int) : Cond) ∈ gG := gm_t (List.mem_append_right _ (List.mem_of_getElem? (i := 24) (rfl : tables_1_2[24]? = some _))) rfl
theorem gm_224 : (.methodLink RX2 198 yX2_unlikeNumbers : Cond) ∈ gG := gm_t (List.mem_append_right _ (List.mem_of_getElem? (i := 25) (rfl : tables_1_2[25]? = some _))) rfl
theorem gm_225 : (.instanceMethod yX2_unlikeNumbers : Cond) ∈ gG := gm_t (List.mem_append_right _ (List.mem_of_getElem? (i := 27) (rfl : tables_1_2[27]? = some _))) rfl
theorem gm_226 : (.code yX2_unlikeNumbers cX2_unlikeNumbers 3 (some .int) : Cond) ∈ gG := gm_t (List.mem_append_right _ (List.mem_of_getElem? (i := 28) (rfl : tables_1_2[28]? = some _))) rfl
theorem gm_227 : (.methodLink RX2 201 yX2_owedByAll : Cond) ∈ gG := gm_t (List.mem_append_right _ (List.mem_of_getElem? (i := 29) (rfl : tables_1_2[29]? = some _))) rfl
theorem gm_228 : (.instanceMethod yX2_owedByAll : Cond) ∈ gG := gm_t (List.mem_append_right _ (List.mem_of_getElem? (i := 31) (rfl : tables_1_2[31]? = some _))) rfl
theorem gm_229 : (.code yX2_owedByAll cX2_owedByAll 3 (some .int) : Cond) ∈ gG := gm_t (List.mem_append_right _ (List.mem_of_getElem? (i := 32) (rfl : tables_1_2[32]? = some _))) rfl
theorem gm_230 : (.methodLink RL 55 yL_cell : Cond) ∈ gG := gm_t (List.mem_append_right _ (List.mem_of_getElem? (i := 33) (rfl : tables_1_2[33]? = some _))) rfl
theorem gm_231 : (.static yL_cell : Cond) ∈ gG := gm_t (List.mem_append_right _ (List.mem_of_getElem? (i := 34) (rfl : tables_1_2[34]? = some _))) rfl
theorem gm_232 : (.code yL_cell cL_cell 2 (some .int) : Cond) ∈ gG := gm_t (List.mem_append_right _ (List.mem_of_getElem? (i := 35) (rfl : tables_1_2[35]? = some _))) rfl
theorem gm_233 : (.constant RL 7 (2147483647 : Int32) : Cond) ∈ gG := gm_t (List.mem_append_right _ (List.mem_of_getElem? (i := 36) (rfl : tables_1_2[36]? = some _))) rfl
theorem gm_234 : (.methodLink RL 58 yL_street : Cond) ∈ gG := gm_t (List.mem_append_right _ (List.mem_of_getElem? (i := 37) (rfl : tables_1_2[37]? = some _))) rfl
theorem gm_235 : (.static yL_street : Cond) ∈ gG := gm_t (List.mem_append_right _ (List.mem_of_getElem? (i := 38) (rfl : tables_1_2[38]? = some _))) rfl
theorem gm_236 : (.code yL_street cL_street 7 (some .boolean) : Cond) ∈ gG := gm_t (List.mem_append_right _ (List.mem_of_getElem? (i := 39) (rfl : tables_1_2[39]? = some _))) rfl
theorem gm_237 : (.methodLink RL 14 yL_put : Cond) ∈ gG := gm_t (List.mem_append_right _ (List.mem_of_getElem? (i := 40) (rfl : tables_1_2[40]? = some _))) rfl
theorem gm_238 : (.static yL_put : Cond) ∈ gG := gm_t (List.mem_append_right _ (List.mem_of_getElem? (i := 41) (rfl : tables_1_2[41]? = some _))) rfl
theorem gm_239 : (.code yL_put cL_put 2 (some .boolean) : Cond) ∈ gG := gm_t (List.mem_append_right _ (List.mem_of_getElem? (i := 42) (rfl : tables_1_2[42]? = some _))) rfl
theorem gm_240 : (.methodLink RL 8 yX2_letter : Cond) ∈ gG := gm_t (List.mem_append_right _ (List.mem_of_getElem? (i := 43) (rfl : tables_1_2[43]? = some _))) rfl
theorem gm_241 : (.instanceMethod yX2_letter : Cond) ∈ gG := gm_t (List.mem_append_right _ (List.mem_of_getElem? (i := 44) (rfl : tables_1_2[44]? = some _))) rfl
theorem gm_242 : (.selects RX2 yX2_letter yX2_letter : Cond) ∈ gG := gm_t (List.mem_append_right _ (List.mem_of_getElem? (i := 45) (rfl : tables_1_2[45]? = some _))) rfl
theorem gm_243 : (.code yX2_letter cX2_letter 2 (some .int) : Cond) ∈ gG := gm_t (List.mem_append_right _ (List.mem_of_getElem? (i := 46) (rfl : tables_1_2[46]? = some _))) rfl
theorem gm_244 : (.methodLink RL 20 yX2_fault : Cond) ∈ gG := gm_t (List.mem_append_right _ (List.mem_of_getElem? (i := 47) (rfl : tables_1_2[47]? = some _))) rfl
theorem gm_245 : (.instanceMethod yX2_fault : Cond) ∈ gG := gm_t (List.mem_append_right _ (List.mem_of_getElem? (i := 48) (rfl : tables_1_2[48]? = some _))) rfl
theorem gm_246 : (.selects RX2 yX2_fault yX2_fault : Cond) ∈ gG := gm_t (List.mem_append_right _ (List.mem_of_getElem? (i := 49) (rfl : tables_1_2[49]? = some _))) rfl
theorem gm_247 : (.code yX2_fault cX2_fault 2 (some .int) : Cond) ∈ gG := gm_t (List.mem_append_right _ (List.mem_of_getElem? (i := 50) (rfl : tables_1_2[50]? = some _))) rfl
theorem gm_248 : (.methodLink RX2 62 yX2_canStandAt : Cond) ∈ gG := gm_t (List.mem_append_right _ (List.mem_of_getElem? (i := 51) (rfl : tables_1_2[51]? = some _))) rfl
theorem gm_249 : (.static yX2_canStandAt : Cond) ∈ gG := gm_t (List.mem_append_right _ (List.mem_of_getElem? (i := 52) (rfl : tables_1_2[52]? = some _))) rfl
theorem gm_250 : (.code yX2_canStandAt cX2_canStandAt 2 (some .boolean) : Cond) ∈ gG := gm_t (List.mem_append_right _ (List.mem_of_getElem? (i := 53) (rfl : tables_1_2[53]? = some _))) rfl
theorem gm_251 : (.methodLink RX2 73 yX2_kindOfLetter : Cond) ∈ gG := gm_t (List.mem_append_right _ (List.mem_of_getElem? (i := 54) (rfl : tables_1_2[54]? = some _))) rfl
theorem gm_252 : (.static yX2_kindOfLetter : Cond) ∈ gG := gm_t (List.mem_append_right _ (List.mem_of_getElem? (i := 55) (rfl : tables_1_2[55]? = some _))) rfl
theorem gm_253 : (.code yX2_kindOfLetter cX2_kindOfLetter 2 (some .int) : Cond) ∈ gG := gm_t (List.mem_append_right _ (List.mem_of_getElem? (i := 56) (rfl : tables_1_2[56]? = some _))) rfl
theorem gn_254 : (.stringRef RX2 233 "htmcb" : Cond) ∈ lw_tbl := List.mem_append_right _ (List.mem_append_right _ (List.mem_of_getElem? (i := 57) (rfl : tables_1_2[57]? = some _)))
theorem gm_255 : (.methodLink RX2 235 yJ0_length_8abf5 : Cond) ∈ gG := gm_t (List.mem_append_right _ (List.mem_of_getElem? (i := 58) (rfl : tables_1_2[58]? = some _))) rfl
theorem gm_256 : (.instanceMethod yJ0_length_8abf5 : Cond) ∈ gG := gm_t (List.mem_append_right _ (List.mem_of_getElem? (i := 59) (rfl : tables_1_2[59]? = some _))) rfl
theorem gm_257 : (.selects RJ0 yJ0_length_8abf5 yJ0_length_8abf5 : Cond) ∈ gG := gm_t (List.mem_append_right _ (List.mem_of_getElem? (i := 60) (rfl : tables_1_2[60]? = some _))) rfl
theorem gm_258 : (.code yJ0_length_8abf5 cJ0_length_8abf5 1 (some .int) : Cond) ∈ gG := gm_t (List.mem_append_right _ (List.mem_of_getElem? (i := 61) (rfl : tables_1_2[61]? = some _))) rfl
theorem gm_259 : (.methodLink RJ0 335 yJ0_coder_7d493 : Cond) ∈ gG := gm_t (List.mem_append_right _ (List.mem_of_getElem? (i := 62) (rfl : tables_1_2[62]? = some _))) rfl
theorem gm_260 : (.instanceMethod yJ0_coder_7d493 : Cond) ∈ gG := gm_t (List.mem_append_right _ (List.mem_of_getElem? (i := 63) (rfl : tables_1_2[63]? = some _))) rfl
theorem gm_261 : (.selects RJ0 yJ0_coder_7d493 yJ0_coder_7d493 : Cond) ∈ gG := gm_t (List.mem_append_right _ (List.mem_of_getElem? (i := 64) (rfl : tables_1_2[64]? = some _))) rfl
theorem gm_262 : (.code yJ0_coder_7d493 cJ0_coder_7d493 1 (some .byte) : Cond) ∈ gG := gm_t (List.mem_append_right _ (List.mem_of_getElem? (i := 65) (rfl : tables_1_2[65]? = some _))) rfl
theorem gm_263 : (.fieldLink RJ0 38 "java/lang/String" "COMPACT_STRINGS" "Z" : Cond) ∈ gG := gm_t (List.mem_append_right _ (List.mem_of_getElem? (i := 66) (rfl : tables_1_2[66]? = some _))) rfl
theorem gm_264 : (.methodLink RX2 240 yJ0_charAt_5068e : Cond) ∈ gG := gm_t (List.mem_append_right _ (List.mem_of_getElem? (i := 68) (rfl : tables_1_2[68]? = some _))) rfl
theorem gm_265 : (.instanceMethod yJ0_charAt_5068e : Cond) ∈ gG := gm_t (List.mem_append_right _ (List.mem_of_getElem? (i := 69) (rfl : tables_1_2[69]? = some _))) rfl
theorem gm_266 : (.selects RJ0 yJ0_charAt_5068e yJ0_charAt_5068e : Cond) ∈ gG := gm_t (List.mem_append_right _ (List.mem_of_getElem? (i := 70) (rfl : tables_1_2[70]? = some _))) rfl
theorem gm_267 : (.code yJ0_charAt_5068e cJ0_charAt_5068e 2 (some .char) : Cond) ∈ gG := gm_t (List.mem_append_right _ (List.mem_of_getElem? (i := 71) (rfl : tables_1_2[71]? = some _))) rfl
theorem gm_268 : (.methodLink RJ0 492 yJ0_isLatin1_aae02 : Cond) ∈ gG := gm_t (List.mem_append_right _ (List.mem_of_getElem? (i := 72) (rfl : tables_1_2[72]? = some _))) rfl
theorem gm_269 : (.instanceMethod yJ0_isLatin1_aae02 : Cond) ∈ gG := gm_t (List.mem_append_right _ (List.mem_of_getElem? (i := 73) (rfl : tables_1_2[73]? = some _))) rfl
theorem gm_270 : (.selects RJ0 yJ0_isLatin1_aae02 yJ0_isLatin1_aae02 : Cond) ∈ gG := gm_t (List.mem_append_right _ (List.mem_of_getElem? (i := 74) (rfl : tables_1_2[74]? = some _))) rfl
theorem gm_271 : (.code yJ0_isLatin1_aae02 cJ0_isLatin1_aae02 1 (some .boolean) : Cond) ∈ gG := gm_t (List.mem_append_right _ (List.mem_of_getElem? (i := 75) (rfl : tables_1_2[75]? = some _))) rfl
theorem gm_272 : (.methodLink RJ0 495 yJ1_charAt_3b067 : Cond) ∈ gG := gm_t (List.mem_append_right _ (List.mem_of_getElem? (i := 76) (rfl : tables_1_2[76]? = some _))) rfl
theorem gm_273 : (.static yJ1_charAt_3b067 : Cond) ∈ gG := gm_t (List.mem_append_right _ (List.mem_of_getElem? (i := 77) (rfl : tables_1_2[77]? = some _))) rfl
theorem gm_274 : (.code yJ1_charAt_3b067 cJ1_charAt_3b067 2 (some .char) : Cond) ∈ gG := gm_t (List.mem_append_right _ (List.mem_of_getElem? (i := 78) (rfl : tables_1_2[78]? = some _))) rfl
theorem gm_275 : (.methodLink RJ1 9 yJ0_checkIndex_df160 : Cond) ∈ gG := gm_t (List.mem_append_right _ (List.mem_of_getElem? (i := 79) (rfl : tables_1_2[79]? = some _))) rfl
theorem gm_276 : (.static yJ0_checkIndex_df160 : Cond) ∈ gG := gm_t (List.mem_append_right _ (List.mem_of_getElem? (i := 80) (rfl : tables_1_2[80]? = some _))) rfl
theorem gm_277 : (.code yJ0_checkIndex_df160 cJ0_checkIndex_df160 2 none : Cond) ∈ gG := gm_t (List.mem_append_right _ (List.mem_of_getElem? (i := 81) (rfl : tables_1_2[81]? = some _))) rfl
theorem gm_278 : (.fieldLink RJ0 1053 "jdk/internal/util/Preconditions" "SIOOBE_FORMATTER" "Ljava/util/function/BiFunction;" : Cond) ∈ gG := gm_t (List.mem_append_right _ (List.mem_of_getElem? (i := 82) (rfl : tables_1_2[82]? = some _))) rfl
theorem gm_279 : (.methodLink RJ0 1059 yJ3_checkIndex_8e157 : Cond) ∈ gG := gm_t (List.mem_append_right _ (List.mem_of_getElem? (i := 84) (rfl : tables_1_2[84]? = some _))) rfl
theorem gm_280 : (.static yJ3_checkIndex_8e157 : Cond) ∈ gG := gm_t (List.mem_append_right _ (List.mem_of_getElem? (i := 85) (rfl : tables_1_2[85]? = some _))) rfl
theorem gm_281 : (.code yJ3_checkIndex_8e157 cJ3_checkIndex_8e157 3 (some .int) : Cond) ∈ gG := gm_t (List.mem_append_right _ (List.mem_of_getElem? (i := 86) (rfl : tables_1_2[86]? = some _))) rfl
theorem gm_282 : (.methodLink RJ0 498 yJ2_charAt_3b067 : Cond) ∈ gG := gm_t (List.mem_append_right _ (List.mem_of_getElem? (i := 87) (rfl : tables_1_2[87]? = some _))) rfl
theorem gm_283 : (.static yJ2_charAt_3b067 : Cond) ∈ gG := gm_t (List.mem_append_right _ (List.mem_of_getElem? (i := 88) (rfl : tables_1_2[88]? = some _))) rfl
theorem gm_284 : (.code yJ2_charAt_3b067 cJ2_charAt_3b067 2 (some .char) : Cond) ∈ gG := gm_t (List.mem_append_right _ (List.mem_of_getElem? (i := 89) (rfl : tables_1_2[89]? = some _))) rfl
theorem gm_285 : (.methodLink RJ2 67 yJ2_checkIndex_2214a : Cond) ∈ gG := gm_t (List.mem_append_right _ (List.mem_of_getElem? (i := 90) (rfl : tables_1_2[90]? = some _))) rfl
theorem gm_286 : (.static yJ2_checkIndex_2214a : Cond) ∈ gG := gm_t (List.mem_append_right _ (List.mem_of_getElem? (i := 91) (rfl : tables_1_2[91]? = some _))) rfl
theorem gm_287 : (.code yJ2_checkIndex_2214a cJ2_checkIndex_2214a 2 none : Cond) ∈ gG := gm_t (List.mem_append_right _ (List.mem_of_getElem? (i := 92) (rfl : tables_1_2[92]? = some _))) rfl
theorem gm_288 : (.methodLink RJ2 48 yJ2_length_9d52b : Cond) ∈ gG := gm_t (List.mem_append_right _ (List.mem_of_getElem? (i := 93) (rfl : tables_1_2[93]? = some _))) rfl
theorem gm_289 : (.static yJ2_length_9d52b : Cond) ∈ gG := gm_t (List.mem_append_right _ (List.mem_of_getElem? (i := 94) (rfl : tables_1_2[94]? = some _))) rfl
theorem gm_290 : (.code yJ2_length_9d52b cJ2_length_9d52b 1 (some .int) : Cond) ∈ gG := gm_t (List.mem_append_right _ (List.mem_of_getElem? (i := 95) (rfl : tables_1_2[95]? = some _))) rfl
theorem gm_291 : (.methodLink RJ2 414 yJ0_checkIndex_df160 : Cond) ∈ gG := gm_t (List.mem_append_right _ (List.mem_of_getElem? (i := 96) (rfl : tables_1_2[96]? = some _))) rfl
theorem gm_292 : (.methodLink RJ2 71 yJ2_getChar_3b067 : Cond) ∈ gG := gm_t (List.mem_append_right _ (List.mem_of_getElem? (i := 97) (rfl : tables_1_2[97]? = some _))) rfl
theorem gm_293 : (.static yJ2_getChar_3b067 : Cond) ∈ gG := gm_t (List.mem_append_right _ (List.mem_of_getElem? (i := 98) (rfl : tables_1_2[98]? = some _))) rfl
theorem gm_294 : (.code yJ2_getChar_3b067 cJ2_getChar_3b067 2 (some .char) : Cond) ∈ gG := gm_t (List.mem_append_right _ (List.mem_of_getElem? (i := 99) (rfl : tables_1_2[99]? = some _))) rfl
theorem gm_295 : (.fieldLink RJ2 44 "java/lang/StringUTF16" "$assertionsDisabled" "Z" : Cond) ∈ gG := gm_t (List.mem_append_right _ (List.mem_of_getElem? (i := 100) (rfl : tables_1_2[100]? = some _))) rfl
theorem gm_296 : (.fieldLink RJ2 59 "java/lang/StringUTF16" "HI_BYTE_SHIFT" "I" : Cond) ∈ gG := gm_t (List.mem_append_right _ (List.mem_of_getElem? (i := 102) (rfl : tables_1_2[102]? = some _))) rfl
theorem gm_297 : (.fieldLink RJ2 63 "java/lang/StringUTF16" "LO_BYTE_SHIFT" "I" : Cond) ∈ gG := gm_t (List.mem_append_right _ (List.mem_of_getElem? (i := 104) (rfl : tables_1_2[104]? = some _))) rfl
theorem gm_298 : (.methodLink RL 24 yX2_street : Cond) ∈ gG := gm_t (List.mem_append_right _ (List.mem_of_getElem? (i := 106) (rfl : tables_1_2[106]? = some _))) rfl
theorem gm_299 : (.instanceMethod yX2_street : Cond) ∈ gG := gm_t (List.mem_append_right _ (List.mem_of_getElem? (i := 107) (rfl : tables_1_2[107]? = some _))) rfl
theorem gm_300 : (.selects RX2 yX2_street yX2_street : Cond) ∈ gG := gm_t (List.mem_append_right _ (List.mem_of_getElem? (i := 108) (rfl : tables_1_2[108]? = some _))) rfl
theorem gm_301 : (.code yX2_street cX2_street 4 (some .int) : Cond) ∈ gG := gm_t (List.mem_append_right _ (List.mem_of_getElem? (i := 109) (rfl : tables_1_2[109]? = some _))) rfl
theorem gm_302 : (.methodLink RX2 66 yX2_housesOnPage : Cond) ∈ gG := gm_t (List.mem_append_right _ (List.mem_of_getElem? (i := 110) (rfl : tables_1_2[110]? = some _))) rfl
theorem gm_303 : (.instanceMethod yX2_housesOnPage : Cond) ∈ gG := gm_t (List.mem_append_right _ (List.mem_of_getElem? (i := 112) (rfl : tables_1_2[112]? = some _))) rfl
theorem gm_304 : (.code yX2_housesOnPage cX2_housesOnPage 2 (some .int) : Cond) ∈ gG := gm_t (List.mem_append_right _ (List.mem_of_getElem? (i := 113) (rfl : tables_1_2[113]? = some _))) rfl
theorem gm_305 : (.methodLink RX2 244 yX2_fault : Cond) ∈ gG := gm_t (List.mem_append_right _ (List.mem_of_getElem? (i := 114) (rfl : tables_1_2[114]? = some _))) rfl
theorem gm_306 : (.methodLink RX2 70 yX0_startAnew : Cond) ∈ gG := gm_t (List.mem_append_right _ (List.mem_of_getElem? (i := 115) (rfl : tables_1_2[115]? = some _))) rfl
theorem gm_307 : (.instanceMethod yX0_startAnew : Cond) ∈ gG := gm_t (List.mem_append_right _ (List.mem_of_getElem? (i := 116) (rfl : tables_1_2[116]? = some _))) rfl
theorem gm_308 : (.selects RX0 yX0_startAnew yX0_startAnew : Cond) ∈ gG := gm_t (List.mem_append_right _ (List.mem_of_getElem? (i := 117) (rfl : tables_1_2[117]? = some _))) rfl
theorem gm_309 : (.code yX0_startAnew cX0_startAnew 1 none : Cond) ∈ gG := gm_t (List.mem_append_right _ (List.mem_of_getElem? (i := 118) (rfl : tables_1_2[118]? = some _))) rfl
theorem gm_310 : (.methodLink RX0 51 yX1_clear : Cond) ∈ gG := gm_t (List.mem_append_right _ (List.mem_of_getElem? (i := 119) (rfl : tables_1_2[119]? = some _))) rfl
theorem gm_311 : (.instanceMethod yX1_clear : Cond) ∈ gG := gm_t (List.mem_append_right _ (List.mem_of_getElem? (i := 120) (rfl : tables_1_2[120]? = some _))) rfl
theorem gm_312 : (.selects RX1 yX1_clear yX1_clear : Cond) ∈ gG := gm_t (List.mem_append_right _ (List.mem_of_getElem? (i := 121) (rfl : tables_1_2[121]? = some _))) rfl
theorem gm_313 : (.code yX1_clear cX1_clear 2 none : Cond) ∈ gG := gm_t (List.mem_append_right _ (List.mem_of_getElem? (i := 122) (rfl : tables_1_2[122]? = some _))) rfl
theorem gm_314 : (.arrayClass .byte : Cond) ∈ gG := gm_t (List.mem_append_right _ (List.mem_of_getElem? (i := 123) (rfl : tables_1_2[123]? = some _))) rfl
theorem gm_315 : (.methodLink RL 27 yL_number : Cond) ∈ gG := gm_t (List.mem_append_right _ (List.mem_of_getElem? (i := 124) (rfl : tables_1_2[124]? = some _))) rfl
theorem gm_316 : (.static yL_number : Cond) ∈ gG := gm_t (List.mem_append_right _ (List.mem_of_getElem? (i := 125) (rfl : tables_1_2[125]? = some _))) rfl
theorem gm_317 : (.code yL_number cL_number 2 (some .int) : Cond) ∈ gG := gm_t (List.mem_append_right _ (List.mem_of_getElem? (i := 126) (rfl : tables_1_2[126]? = some _))) rfl
theorem gm_318 : (.methodLink RL 31 yL_now : Cond) ∈ gG := gm_t (List.mem_append_right _ (List.mem_of_getElem? (i := 127) (rfl : tables_1_2[127]? = some _))) rfl
theorem gm_319 : (.static yL_now : Cond) ∈ gG := gm_t (List.mem_append_right _ (List.mem_of_getElem? (i := 128) (rfl : tables_1_2[128]? = some _))) rfl
theorem gm_320 : (.code yL_now cL_now 2 (some .int) : Cond) ∈ gG := gm_t (List.mem_append_right _ (List.mem_of_getElem? (i := 129) (rfl : tables_1_2[129]? = some _))) rfl
theorem gm_321 : (.methodLink RL 80 yL_then : Cond) ∈ gG := gm_t (List.mem_append_right _ (List.mem_of_getElem? (i := 130) (rfl : tables_1_2[130]? = some _))) rfl
theorem gm_322 : (.static yL_then : Cond) ∈ gG := gm_t (List.mem_append_right _ (List.mem_of_getElem? (i := 131) (rfl : tables_1_2[131]? = some _))) rfl
theorem gm_323 : (.code yL_then cL_then 4 (some .int) : Cond) ∈ gG := gm_t (List.mem_append_right _ (List.mem_of_getElem? (i := 132) (rfl : tables_1_2[132]? = some _))) rfl
theorem gm_324 : (.constantLong RL 35 (127 : Int64) : Cond) ∈ gG := gm_t (List.mem_append_right _ (List.mem_of_getElem? (i := 133) (rfl : tables_1_2[133]? = some _))) rfl
theorem gm_325 : (.methodLink RL 50 yL_pass : Cond) ∈ gG := gm_t (List.mem_append_right _ (List.mem_of_getElem? (i := 134) (rfl : tables_1_2[134]? = some _))) rfl
theorem gm_326 : (.static yL_pass : Cond) ∈ gG := gm_t (List.mem_append_right _ (List.mem_of_getElem? (i := 135) (rfl : tables_1_2[135]? = some _))) rfl
theorem gm_327 : (.code yL_pass cL_pass 2 none : Cond) ∈ gG := gm_t (List.mem_append_right _ (List.mem_of_getElem? (i := 136) (rfl : tables_1_2[136]? = some _))) rfl
theorem gm_328 : (.methodLink RL 37 yL_bears : Cond) ∈ gG := gm_t (List.mem_append_right _ (List.mem_of_getElem? (i := 137) (rfl : tables_1_2[137]? = some _))) rfl
theorem gm_329 : (.static yL_bears : Cond) ∈ gG := gm_t (List.mem_append_right _ (List.mem_of_getElem? (i := 138) (rfl : tables_1_2[138]? = some _))) rfl
theorem gm_330 : (.code yL_bears cL_bears 2 (some .boolean) : Cond) ∈ gG := gm_t (List.mem_append_right _ (List.mem_of_getElem? (i := 139) (rfl : tables_1_2[139]? = some _))) rfl
theorem gm_331 : (.methodLink RL 44 yL_bear : Cond) ∈ gG := gm_t (List.mem_append_right _ (List.mem_of_getElem? (i := 140) (rfl : tables_1_2[140]? = some _))) rfl
theorem gm_332 : (.static yL_bear : Cond) ∈ gG := gm_t (List.mem_append_right _ (List.mem_of_getElem? (i := 141) (rfl : tables_1_2[141]? = some _))) rfl
theorem gm_333 : (.code yL_bear cL_bear 3 (some .int) : Cond) ∈ gG := gm_t (List.mem_append_right _ (List.mem_of_getElem? (i := 142) (rfl : tables_1_2[142]? = some _))) rfl
theorem gm_334 : (.methodLink RL 74 yL_order : Cond) ∈ gG := gm_t (List.mem_append_right _ (List.mem_of_getElem? (i := 143) (rfl : tables_1_2[143]? = some _))) rfl
theorem gm_335 : (.static yL_order : Cond) ∈ gG := gm_t (List.mem_append_right _ (List.mem_of_getElem? (i := 144) (rfl : tables_1_2[144]? = some _))) rfl
theorem gm_336 : (.code yL_order cL_order 4 (some .int) : Cond) ∈ gG := gm_t (List.mem_append_right _ (List.mem_of_getElem? (i := 145) (rfl : tables_1_2[145]? = some _))) rfl
theorem gm_337 : (.methodLink RL 95 yL_walk : Cond) ∈ gG := gm_t (List.mem_append_right _ (List.mem_of_getElem? (i := 146) (rfl : tables_1_2[146]? = some _))) rfl
theorem gm_338 : (.static yL_walk : Cond) ∈ gG := gm_t (List.mem_append_right _ (List.mem_of_getElem? (i := 147) (rfl : tables_1_2[147]? = some _))) rfl
theorem gm_339 : (.code yL_walk cL_walk 7 (some .int) : Cond) ∈ gG := gm_t (List.mem_append_right _ (List.mem_of_getElem? (i := 148) (rfl : tables_1_2[148]? = some _))) rfl
theorem gm_340 : (.methodLink RL 101 yL_numbers : Cond) ∈ gG := gm_t (List.mem_append_right _ (List.mem_of_getElem? (i := 149) (rfl : tables_1_2[149]? = some _))) rfl
theorem gm_341 : (.static yL_numbers : Cond) ∈ gG := gm_t (List.mem_append_right _ (List.mem_of_getElem? (i := 150) (rfl : tables_1_2[150]? = some _))) rfl
theorem gm_342 : (.code yL_numbers cL_numbers 3 (some .int) : Cond) ∈ gG := gm_t (List.mem_append_right _ (List.mem_of_getElem? (i := 151) (rfl : tables_1_2[151]? = some _))) rfl
theorem gm_343 : (.methodLink RL 104 yL_copy : Cond) ∈ gG := gm_t (List.mem_append_right _ (List.mem_of_getElem? (i := 152) (rfl : tables_1_2[152]? = some _))) rfl
theorem gm_344 : (.static yL_copy : Cond) ∈ gG := gm_t (List.mem_append_right _ (List.mem_of_getElem? (i := 153) (rfl : tables_1_2[153]? = some _))) rfl
theorem gm_345 : (.code yL_copy cL_copy 3 none : Cond) ∈ gG := gm_t (List.mem_append_right _ (List.mem_of_getElem? (i := 154) (rfl : tables_1_2[154]? = some _))) rfl
theorem gm_346 : (.methodLink RL 64 yL_act : Cond) ∈ gG := gm_t (List.mem_append_right _ (List.mem_of_getElem? (i := 155) (rfl : tables_1_2[155]? = some _))) rfl
theorem gm_347 : (.static yL_act : Cond) ∈ gG := gm_t (List.mem_append_right _ (List.mem_of_getElem? (i := 156) (rfl : tables_1_2[156]? = some _))) rfl
theorem gm_348 : (.code yL_act cL_act 7 (some .boolean) : Cond) ∈ gG := gm_t (List.mem_append_right _ (List.mem_of_getElem? (i := 157) (rfl : tables_1_2[157]? = some _))) rfl
theorem gm_349 : (.constantLong RL 108 (1103515245 : Int64) : Cond) ∈ gG := gm_t (List.mem_append_right _ (List.mem_of_getElem? (i := 158) (rfl : tables_1_2[158]? = some _))) rfl
theorem gm_350 : (.constantLong RL 110 (12345 : Int64) : Cond) ∈ gG := gm_t (List.mem_append_right _ (List.mem_of_getElem? (i := 159) (rfl : tables_1_2[159]? = some _))) rfl
theorem gm_351 : (.constantLong RL 112 (2147483648 : Int64) : Cond) ∈ gG := gm_t (List.mem_append_right _ (List.mem_of_getElem? (i := 160) (rfl : tables_1_2[160]? = some _))) rfl
theorem gm_352 : (.constantLong RL 114 (65536 : Int64) : Cond) ∈ gG := gm_t (List.mem_append_right _ (List.mem_of_getElem? (i := 161) (rfl : tables_1_2[161]? = some _))) rfl
theorem gm_353 : (.arrayClass .long : Cond) ∈ gG := gm_t (List.mem_append_right _ (List.mem_of_getElem? (i := 162) (rfl : tables_1_2[162]? = some _))) rfl
theorem gm_354 : (.fieldLink RJ0 9 "java/lang/String" "value" "[B" : Cond) ∈ gG := gm_t (List.mem_append_right _ (List.mem_of_getElem? (i := 163) (rfl : tables_1_2[163]? = some _))) rfl
theorem gm_355 : (.fieldLink RJ0 15 "java/lang/String" "coder" "B" : Cond) ∈ gG := gm_t (List.mem_append_right _ (List.mem_of_getElem? (i := 164) (rfl : tables_1_2[164]? = some _))) rfl
theorem gm_356 : (.selects RX2 yX2_isHouse yX2_isHouse : Cond) ∈ gG := gm_s (List.mem_of_getElem? (i := 0) (rfl : (k2_sels lw_privs)[0]? = some _)) rfl
theorem gm_357 : (.selects RX2 yX2_numberNow yX2_numberNow : Cond) ∈ gG := gm_s (List.mem_of_getElem? (i := 1) (rfl : (k2_sels lw_privs)[1]? = some _)) rfl
theorem gm_358 : (.selects RX2 yX2_numberAt yX2_numberAt : Cond) ∈ gG := gm_s (List.mem_of_getElem? (i := 2) (rfl : (k2_sels lw_privs)[2]? = some _)) rfl
theorem gm_359 : (.selects RX2 yX2_owedBy yX2_owedBy : Cond) ∈ gG := gm_s (List.mem_of_getElem? (i := 3) (rfl : (k2_sels lw_privs)[3]? = some _)) rfl
theorem gm_360 : (.selects RX2 yX2_houseWith yX2_houseWith : Cond) ∈ gG := gm_s (List.mem_of_getElem? (i := 4) (rfl : (k2_sels lw_privs)[4]? = some _)) rfl
theorem gm_361 : (.selects RX2 yX2_numberOn yX2_numberOn : Cond) ∈ gG := gm_s (List.mem_of_getElem? (i := 5) (rfl : (k2_sels lw_privs)[5]? = some _)) rfl
theorem gm_362 : (.selects RX2 yX2_turnInWalk yX2_turnInWalk : Cond) ∈ gG := gm_s (List.mem_of_getElem? (i := 6) (rfl : (k2_sels lw_privs)[6]? = some _)) rfl
theorem gm_363 : (.selects RX2 yX2_bear yX2_bear : Cond) ∈ gG := gm_s (List.mem_of_getElem? (i := 7) (rfl : (k2_sels lw_privs)[7]? = some _)) rfl
theorem gm_364 : (.selects RX2 yX2_lendsACradle yX2_lendsACradle : Cond) ∈ gG := gm_s (List.mem_of_getElem? (i := 8) (rfl : (k2_sels lw_privs)[8]? = some _)) rfl
theorem gm_365 : (.selects RX2 yX2_growOlder yX2_growOlder : Cond) ∈ gG := gm_s (List.mem_of_getElem? (i := 9) (rfl : (k2_sels lw_privs)[9]? = some _)) rfl
theorem gm_366 : (.selects RX2 yX2_isDay yX2_isDay : Cond) ∈ gG := gm_s (List.mem_of_getElem? (i := 10) (rfl : (k2_sels lw_privs)[10]? = some _)) rfl
theorem gm_367 : (.selects RX2 yX2_lengthOfWalk yX2_lengthOfWalk : Cond) ∈ gG := gm_s (List.mem_of_getElem? (i := 11) (rfl : (k2_sels lw_privs)[11]? = some _)) rfl
theorem gm_368 : (.selects RX2 yX2_houseOfTurn yX2_houseOfTurn : Cond) ∈ gG := gm_s (List.mem_of_getElem? (i := 12) (rfl : (k2_sels lw_privs)[12]? = some _)) rfl
theorem gm_369 : (.selects RX2 yX2_drawnHouse yX2_drawnHouse : Cond) ∈ gG := gm_s (List.mem_of_getElem? (i := 13) (rfl : (k2_sels lw_privs)[13]? = some _)) rfl
theorem gm_370 : (.selects RX2 yX2_bearIfMayBe yX2_bearIfMayBe : Cond) ∈ gG := gm_s (List.mem_of_getElem? (i := 14) (rfl : (k2_sels lw_privs)[14]? = some _)) rfl
theorem gm_371 : (.selects RX2 yX2_allNumbers yX2_allNumbers : Cond) ∈ gG := gm_s (List.mem_of_getElem? (i := 15) (rfl : (k2_sels lw_privs)[15]? = some _)) rfl
theorem gm_372 : (.selects RX2 yX2_unlikeNumbers yX2_unlikeNumbers : Cond) ∈ gG := gm_s (List.mem_of_getElem? (i := 16) (rfl : (k2_sels lw_privs)[16]? = some _)) rfl
theorem gm_373 : (.selects RX2 yX2_owedByAll yX2_owedByAll : Cond) ∈ gG := gm_s (List.mem_of_getElem? (i := 17) (rfl : (k2_sels lw_privs)[17]? = some _)) rfl
theorem gm_374 : (.selects RX2 yX2_housesOnPage yX2_housesOnPage : Cond) ∈ gG := gm_s (List.mem_of_getElem? (i := 18) (rfl : (k2_sels lw_privs)[18]? = some _)) rfl
theorem us_X0 : ∀ w ∈ u_ws RX0 TX0 11, w ∈ gG := by
  intro w hw
  obtain ⟨k, hk, rfl⟩ := List.mem_map.mp hw
  have hk := List.mem_range.mp hk
  match k, hk with
  | 0, _ => exact gm_55
  | 1, _ => exact gm_56
  | 2, _ => exact gm_57
  | 3, _ => exact gm_58
  | 4, _ => exact gm_59
  | 5, _ => exact gm_60
  | 6, _ => exact gm_61
  | 7, _ => exact gm_62
  | 8, _ => exact gm_63
  | 9, _ => exact gm_64
  | 10, _ => exact gm_65
  | k + 11, h => exact absurd h (by omega)
theorem us_X1 : ∀ w ∈ u_ws RX1 TX1 1, w ∈ gG := by
  intro w hw
  obtain ⟨k, hk, rfl⟩ := List.mem_map.mp hw
  have hk := List.mem_range.mp hk
  match k, hk with
  | 0, _ => exact gm_25
  | k + 1, h => exact absurd h (by omega)
theorem us_X2 : ∀ w ∈ u_ws RX2 TX2 11, w ∈ gG := by
  intro w hw
  obtain ⟨k, hk, rfl⟩ := List.mem_map.mp hw
  have hk := List.mem_range.mp hk
  match k, hk with
  | 0, _ => exact gm_77
  | 1, _ => exact gm_78
  | 2, _ => exact gm_79
  | 3, _ => exact gm_80
  | 4, _ => exact gm_81
  | 5, _ => exact gm_82
  | 6, _ => exact gm_83
  | 7, _ => exact gm_84
  | 8, _ => exact gm_85
  | 9, _ => exact gm_86
  | 10, _ => exact gm_87
  | k + 11, h => exact absurd h (by omega)
theorem us_X3 : ∀ w ∈ u_ws RX3 TX3 0, w ∈ gG := by
  intro w hw
  obtain ⟨k, hk, rfl⟩ := List.mem_map.mp hw
  have hk := List.mem_range.mp hk
  match k, hk with
  | k + 0, h => exact absurd h (by omega)
