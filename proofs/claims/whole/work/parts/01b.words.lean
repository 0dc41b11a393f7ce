/-- every word of the tables that any state keeps, and the selects of the private methods -/
def gG : List Cond := lw_tbl.filter goodWord
theorem gG_in : ∀ w ∈ gG, w ∈ lw_tbl := fun w h => (List.mem_filter.mp h).1
theorem gG_ok : ∀ w ∈ gG, goodWord w = true := fun w h => (List.mem_filter.mp h).2
theorem gm_t {w : Cond} (h : w ∈ tables_1) (hg : goodWord w = true) : w ∈ gG := List.mem_filter.mpr ⟨List.mem_append_right _ h, hg⟩
theorem gm_s {w : Cond} (h : w ∈ k2_sels lw_privs) (hg : goodWord w = true) : w ∈ gG := List.mem_filter.mpr ⟨List.mem_append_left _ h, hg⟩
theorem gm_1 : (.initialized RL : Cond) ∈ gG := gm_t (List.mem_append_left _ (List.mem_of_getElem? (i := 0) (rfl : tables_1_1[0]? = some _))) rfl
theorem gm_2 : (.initialized RX2 : Cond) ∈ gG := gm_t (List.mem_append_left _ (List.mem_of_getElem? (i := 1) (rfl : tables_1_1[1]? = some _))) rfl
theorem gm_3 : (.initialized RX1 : Cond) ∈ gG := gm_t (List.mem_append_left _ (List.mem_of_getElem? (i := 2) (rfl : tables_1_1[2]? = some _))) rfl
theorem gm_4 : (.initialized RX0 : Cond) ∈ gG := gm_t (List.mem_append_left _ (List.mem_of_getElem? (i := 3) (rfl : tables_1_1[3]? = some _))) rfl
theorem gm_5 : (.initialized RX3 : Cond) ∈ gG := gm_t (List.mem_append_left _ (List.mem_of_getElem? (i := 4) (rfl : tables_1_1[4]? = some _))) rfl
theorem gm_6 : (.initialized RJ0 : Cond) ∈ gG := gm_t (List.mem_append_left _ (List.mem_of_getElem? (i := 5) (rfl : tables_1_1[5]? = some _))) rfl
theorem gm_7 : (.initialized RJ1 : Cond) ∈ gG := gm_t (List.mem_append_left _ (List.mem_of_getElem? (i := 6) (rfl : tables_1_1[6]? = some _))) rfl
theorem gm_8 : (.initialized RJ3 : Cond) ∈ gG := gm_t (List.mem_append_left _ (List.mem_of_getElem? (i := 7) (rfl : tables_1_1[7]? = some _))) rfl
theorem gm_9 : (.initialized RJ2 : Cond) ∈ gG := gm_t (List.mem_append_left _ (List.mem_of_getElem? (i := 8) (rfl : tables_1_1[8]? = some _))) rfl
theorem gm_10 : (.initialized RJ9 : Cond) ∈ gG := gm_t (List.mem_append_left _ (List.mem_of_getElem? (i := 9) (rfl : tables_1_1[9]? = some _))) rfl
theorem gm_11 : (.initialized RJ6 : Cond) ∈ gG := gm_t (List.mem_append_left _ (List.mem_of_getElem? (i := 10) (rfl : tables_1_1[10]? = some _))) rfl
theorem gm_12 : (.classLink RL 7 RX2 : Cond) ∈ gG := gm_t (List.mem_append_left _ (List.mem_of_getElem? (i := 11) (rfl : tables_1_1[11]? = some _))) rfl
theorem gm_13 : (.instantiable RX2 11 : Cond) ∈ gG := gm_t (List.mem_append_left _ (List.mem_of_getElem? (i := 12) (rfl : tables_1_1[12]? = some _))) rfl
theorem gm_14 : (.methodLink RL 9 yX2_init : Cond) ∈ gG := gm_t (List.mem_append_left _ (List.mem_of_getElem? (i := 13) (rfl : tables_1_1[13]? = some _))) rfl
theorem gm_15 : (.instanceMethod yX2_init : Cond) ∈ gG := gm_t (List.mem_append_left _ (List.mem_of_getElem? (i := 14) (rfl : tables_1_1[14]? = some _))) rfl
theorem gm_16 : (.code yX2_init cX2_init 1 none : Cond) ∈ gG := gm_t (List.mem_append_left _ (List.mem_of_getElem? (i := 15) (rfl : tables_1_1[15]? = some _))) rfl
theorem gm_17 : (.methodLink RX2 3 objectInit : Cond) ∈ gG := gm_t (List.mem_append_left _ (List.mem_of_getElem? (i := 16) (rfl : tables_1_1[16]? = some _))) rfl
theorem gm_18 : (.instanceMethod objectInit : Cond) ∈ gG := gm_t (List.mem_append_left _ (List.mem_of_getElem? (i := 17) (rfl : tables_1_1[17]? = some _))) rfl
theorem gm_19 : (.code objectInit ⟨#[0xb1]⟩ 1 none : Cond) ∈ gG := gm_t (List.mem_append_left _ (List.mem_of_getElem? (i := 18) (rfl : tables_1_1[18]? = some _))) rfl
theorem gm_20 : (.classLink RX2 9 RX1 : Cond) ∈ gG := gm_t (List.mem_append_left _ (List.mem_of_getElem? (i := 19) (rfl : tables_1_1[19]? = some _))) rfl
theorem gm_21 : (.instantiable RX1 1 : Cond) ∈ gG := gm_t (List.mem_append_left _ (List.mem_of_getElem? (i := 20) (rfl : tables_1_1[20]? = some _))) rfl
theorem gm_22 : (.methodLink RX2 11 yX1_init : Cond) ∈ gG := gm_t (List.mem_append_left _ (List.mem_of_getElem? (i := 21) (rfl : tables_1_1[21]? = some _))) rfl
theorem gm_23 : (.instanceMethod yX1_init : Cond) ∈ gG := gm_t (List.mem_append_left _ (List.mem_of_getElem? (i := 22) (rfl : tables_1_1[22]? = some _))) rfl
theorem gm_24 : (.code yX1_init cX1_init 2 none : Cond) ∈ gG := gm_t (List.mem_append_left _ (List.mem_of_getElem? (i := 23) (rfl : tables_1_1[23]? = some _))) rfl
theorem gm_25 : (.methodLink RX1 1 objectInit : Cond) ∈ gG := gm_t (List.mem_append_left _ (List.mem_of_getElem? (i := 24) (rfl : tables_1_1[24]? = some _))) rfl
theorem gm_26 : (.fieldLink RX1 7 "BirthStreet$Row" "cells" "[I" : Cond) ∈ gG := gm_t (List.mem_append_left _ (List.mem_of_getElem? (i := 25) (rfl : tables_1_1[25]? = some _))) rfl
theorem gm_27 : (.laysFinal RX1 "BirthStreet$Row" "cells" "[I" : Cond) ∈ gG := gm_t (List.mem_append_left _ (List.mem_of_getElem? (i := 26) (rfl : tables_1_1[26]? = some _))) rfl
theorem gm_28 : (.arrayClass .int : Cond) ∈ gG := gm_t (List.mem_append_left _ (List.mem_of_getElem? (i := 29) (rfl : tables_1_1[29]? = some _))) rfl
theorem gm_29 : (.classLink RX2 31 RX0 : Cond) ∈ gG := gm_t (List.mem_append_left _ (List.mem_of_getElem? (i := 30) (rfl : tables_1_1[30]? = some _))) rfl
theorem gm_30 : (.instantiable RX0 11 : Cond) ∈ gG := gm_t (List.mem_append_left _ (List.mem_of_getElem? (i := 31) (rfl : tables_1_1[31]? = some _))) rfl
theorem gn_31 : (.methodLinkNest RX2 33 yX0_init RX2 : Cond) ∈ lw_tbl := List.mem_append_right _ (List.mem_append_left _ (List.mem_of_getElem? (i := 32) (rfl : tables_1_1[32]? = some _)))
theorem gm_32 : (.instanceMethod yX0_init : Cond) ∈ gG := gm_t (List.mem_append_left _ (List.mem_of_getElem? (i := 33) (rfl : tables_1_1[33]? = some _))) rfl
theorem gm_33 : (.code yX0_init cX0_init 1 none : Cond) ∈ gG := gm_t (List.mem_append_left _ (List.mem_of_getElem? (i := 34) (rfl : tables_1_1[34]? = some _))) rfl
theorem gm_34 : (.methodLink RX0 3 objectInit : Cond) ∈ gG := gm_t (List.mem_append_left _ (List.mem_of_getElem? (i := 35) (rfl : tables_1_1[35]? = some _))) rfl
theorem gm_35 : (.classLink RX0 24 RX1 : Cond) ∈ gG := gm_t (List.mem_append_left _ (List.mem_of_getElem? (i := 36) (rfl : tables_1_1[36]? = some _))) rfl
theorem gm_36 : (.methodLink RX0 26 yX1_init : Cond) ∈ gG := gm_t (List.mem_append_left _ (List.mem_of_getElem? (i := 37) (rfl : tables_1_1[37]? = some _))) rfl
theorem gm_37 : (.fieldLink RX0 9 "BirthStreet$Moment" "today" "I" : Cond) ∈ gG := gm_t (List.mem_append_left _ (List.mem_of_getElem? (i := 38) (rfl : tables_1_1[38]? = some _))) rfl
theorem gn_38 : (.fieldLinkNest RX2 112 "BirthStreet$Moment" "today" "I" RX2 : Cond) ∈ lw_tbl := List.mem_append_right _ (List.mem_append_left _ (List.mem_of_getElem? (i := 39) (rfl : tables_1_1[39]? = some _)))
theorem gm_39 : (.fieldLink RX0 15 "BirthStreet$Moment" "births" "I" : Cond) ∈ gG := gm_t (List.mem_append_left _ (List.mem_of_getElem? (i := 40) (rfl : tables_1_1[40]? = some _))) rfl
theorem gn_40 : (.fieldLinkNest RX2 103 "BirthStreet$Moment" "births" "I" RX2 : Cond) ∈ lw_tbl := List.mem_append_right _ (List.mem_append_left _ (List.mem_of_getElem? (i := 41) (rfl : tables_1_1[41]? = some _)))
theorem gm_41 : (.fieldLink RX0 18 "BirthStreet$Moment" "debts" "I" : Cond) ∈ gG := gm_t (List.mem_append_left _ (List.mem_of_getElem? (i := 42) (rfl : tables_1_1[42]? = some _))) rfl
theorem gn_42 : (.fieldLinkNest RX2 139 "BirthStreet$Moment" "debts" "I" RX2 : Cond) ∈ lw_tbl := List.mem_append_right _ (List.mem_append_left _ (List.mem_of_getElem? (i := 43) (rfl : tables_1_1[43]? = some _)))
theorem gm_43 : (.fieldLink RX0 21 "BirthStreet$Moment" "heard" "I" : Cond) ∈ gG := gm_t (List.mem_append_left _ (List.mem_of_getElem? (i := 44) (rfl : tables_1_1[44]? = some _))) rfl
theorem gn_44 : (.fieldLinkNest RX2 162 "BirthStreet$Moment" "heard" "I" RX2 : Cond) ∈ lw_tbl := List.mem_append_right _ (List.mem_append_left _ (List.mem_of_getElem? (i := 45) (rfl : tables_1_1[45]? = some _)))
theorem gm_45 : (.fieldLink RX0 29 "BirthStreet$Moment" "ages" "LBirthStreet$Row;" : Cond) ∈ gG := gm_t (List.mem_append_left _ (List.mem_of_getElem? (i := 46) (rfl : tables_1_1[46]? = some _))) rfl
theorem gn_46 : (.fieldLinkNest RX2 76 "BirthStreet$Moment" "ages" "LBirthStreet$Row;" RX2 : Cond) ∈ lw_tbl := List.mem_append_right _ (List.mem_append_left _ (List.mem_of_getElem? (i := 47) (rfl : tables_1_1[47]? = some _)))
theorem gm_47 : (.fieldLink RX0 33 "BirthStreet$Moment" "pastAges" "LBirthStreet$Row;" : Cond) ∈ gG := gm_t (List.mem_append_left _ (List.mem_of_getElem? (i := 48) (rfl : tables_1_1[48]? = some _))) rfl
theorem gn_48 : (.fieldLinkNest RX2 115 "BirthStreet$Moment" "pastAges" "LBirthStreet$Row;" RX2 : Cond) ∈ lw_tbl := List.mem_append_right _ (List.mem_append_left _ (List.mem_of_getElem? (i := 49) (rfl : tables_1_1[49]? = some _)))
theorem gm_49 : (.fieldLink RX0 36 "BirthStreet$Moment" "birthsIn" "LBirthStreet$Row;" : Cond) ∈ gG := gm_t (List.mem_append_left _ (List.mem_of_getElem? (i := 50) (rfl : tables_1_1[50]? = some _))) rfl
theorem gn_50 : (.fieldLinkNest RX2 86 "BirthStreet$Moment" "birthsIn" "LBirthStreet$Row;" RX2 : Cond) ∈ lw_tbl := List.mem_append_right _ (List.mem_append_left _ (List.mem_of_getElem? (i := 51) (rfl : tables_1_1[51]? = some _)))
theorem gm_51 : (.fieldLink RX0 39 "BirthStreet$Moment" "debtAmounts" "LBirthStreet$Row;" : Cond) ∈ gG := gm_t (List.mem_append_left _ (List.mem_of_getElem? (i := 52) (rfl : tables_1_1[52]? = some _))) rfl
theorem gn_52 : (.fieldLinkNest RX2 142 "BirthStreet$Moment" "debtAmounts" "LBirthStreet$Row;" RX2 : Cond) ∈ lw_tbl := List.mem_append_right _ (List.mem_append_left _ (List.mem_of_getElem? (i := 53) (rfl : tables_1_1[53]? = some _)))
theorem gm_53 : (.fieldLink RX0 42 "BirthStreet$Moment" "debtNumbers" "LBirthStreet$Row;" : Cond) ∈ gG := gm_t (List.mem_append_left _ (List.mem_of_getElem? (i := 54) (rfl : tables_1_1[54]? = some _))) rfl
theorem gn_54 : (.fieldLinkNest RX2 145 "BirthStreet$Moment" "debtNumbers" "LBirthStreet$Row;" RX2 : Cond) ∈ lw_tbl := List.mem_append_right _ (List.mem_append_left _ (List.mem_of_getElem? (i := 55) (rfl : tables_1_1[55]? = some _)))
theorem gm_55 : (.fieldLink RX0 45 "BirthStreet$Moment" "heardHouses" "LBirthStreet$Row;" : Cond) ∈ gG := gm_t (List.mem_append_left _ (List.mem_of_getElem? (i := 56) (rfl : tables_1_1[56]? = some _))) rfl
theorem gn_56 : (.fieldLinkNest RX2 165 "BirthStreet$Moment" "heardHouses" "LBirthStreet$Row;" RX2 : Cond) ∈ lw_tbl := List.mem_append_right _ (List.mem_append_left _ (List.mem_of_getElem? (i := 57) (rfl : tables_1_1[57]? = some _)))
theorem gm_57 : (.fieldLink RX0 48 "BirthStreet$Moment" "heardNumbers" "LBirthStreet$Row;" : Cond) ∈ gG := gm_t (List.mem_append_left _ (List.mem_of_getElem? (i := 58) (rfl : tables_1_1[58]? = some _))) rfl
theorem gn_58 : (.fieldLinkNest RX2 168 "BirthStreet$Moment" "heardNumbers" "LBirthStreet$Row;" RX2 : Cond) ∈ lw_tbl := List.mem_append_right _ (List.mem_append_left _ (List.mem_of_getElem? (i := 59) (rfl : tables_1_1[59]? = some _)))
theorem gm_59 : (.lays RX0 "BirthStreet$Moment" "today" "I" : Cond) ∈ gG := gm_t (List.mem_append_left _ (List.mem_of_getElem? (i := 60) (rfl : tables_1_1[60]? = some _))) rfl
theorem gm_60 : (.lays RX0 "BirthStreet$Moment" "births" "I" : Cond) ∈ gG := gm_t (List.mem_append_left _ (List.mem_of_getElem? (i := 62) (rfl : tables_1_1[62]? = some _))) rfl
theorem gm_61 : (.lays RX0 "BirthStreet$Moment" "debts" "I" : Cond) ∈ gG := gm_t (List.mem_append_left _ (List.mem_of_getElem? (i := 64) (rfl : tables_1_1[64]? = some _))) rfl
theorem gm_62 : (.lays RX0 "BirthStreet$Moment" "heard" "I" : Cond) ∈ gG := gm_t (List.mem_append_left _ (List.mem_of_getElem? (i := 66) (rfl : tables_1_1[66]? = some _))) rfl
theorem gm_63 : (.laysFinal RX0 "BirthStreet$Moment" "ages" "LBirthStreet$Row;" : Cond) ∈ gG := gm_t (List.mem_append_left _ (List.mem_of_getElem? (i := 68) (rfl : tables_1_1[68]? = some _))) rfl
theorem gm_64 : (.laysFinal RX0 "BirthStreet$Moment" "pastAges" "LBirthStreet$Row;" : Cond) ∈ gG := gm_t (List.mem_append_left _ (List.mem_of_getElem? (i := 70) (rfl : tables_1_1[70]? = some _))) rfl
theorem gm_65 : (.laysFinal RX0 "BirthStreet$Moment" "birthsIn" "LBirthStreet$Row;" : Cond) ∈ gG := gm_t (List.mem_append_left _ (List.mem_of_getElem? (i := 72) (rfl : tables_1_1[72]? = some _))) rfl
theorem gm_66 : (.laysFinal RX0 "BirthStreet$Moment" "debtAmounts" "LBirthStreet$Row;" : Cond) ∈ gG := gm_t (List.mem_append_left _ (List.mem_of_getElem? (i := 74) (rfl : tables_1_1[74]? = some _))) rfl
theorem gm_67 : (.laysFinal RX0 "BirthStreet$Moment" "debtNumbers" "LBirthStreet$Row;" : Cond) ∈ gG := gm_t (List.mem_append_left _ (List.mem_of_getElem? (i := 76) (rfl : tables_1_1[76]? = some _))) rfl
theorem gm_68 : (.laysFinal RX0 "BirthStreet$Moment" "heardHouses" "LBirthStreet$Row;" : Cond) ∈ gG := gm_t (List.mem_append_left _ (List.mem_of_getElem? (i := 78) (rfl : tables_1_1[78]? = some _))) rfl
theorem gm_69 : (.laysFinal RX0 "BirthStreet$Moment" "heardNumbers" "LBirthStreet$Row;" : Cond) ∈ gG := gm_t (List.mem_append_left _ (List.mem_of_getElem? (i := 80) (rfl : tables_1_1[80]? = some _))) rfl
theorem gm_70 : (.fieldLink RX2 14 "BirthStreet" "page" "LBirthStreet$Row;" : Cond) ∈ gG := gm_t (List.mem_append_left _ (List.mem_of_getElem? (i := 83) (rfl : tables_1_1[83]? = some _))) rfl
theorem gm_71 : (.fieldLink RX2 18 "BirthStreet" "letters" "I" : Cond) ∈ gG := gm_t (List.mem_append_left _ (List.mem_of_getElem? (i := 84) (rfl : tables_1_1[84]? = some _))) rfl
theorem gm_72 : (.fieldLink RX2 22 "BirthStreet" "houses" "I" : Cond) ∈ gG := gm_t (List.mem_append_left _ (List.mem_of_getElem? (i := 85) (rfl : tables_1_1[85]? = some _))) rfl
theorem gm_73 : (.fieldLink RX2 25 "BirthStreet" "streetsRead" "I" : Cond) ∈ gG := gm_t (List.mem_append_left _ (List.mem_of_getElem? (i := 86) (rfl : tables_1_1[86]? = some _))) rfl
theorem gm_74 : (.fieldLink RX2 28 "BirthStreet" "kinds" "LBirthStreet$Row;" : Cond) ∈ gG := gm_t (List.mem_append_left _ (List.mem_of_getElem? (i := 87) (rfl : tables_1_1[87]? = some _))) rfl
theorem gm_75 : (.fieldLink RX2 34 "BirthStreet" "now" "LBirthStreet$Moment;" : Cond) ∈ gG := gm_t (List.mem_append_left _ (List.mem_of_getElem? (i := 88) (rfl : tables_1_1[88]? = some _))) rfl
theorem gm_76 : (.fieldLink RX2 38 "BirthStreet" "kept" "LBirthStreet$Moment;" : Cond) ∈ gG := gm_t (List.mem_append_left _ (List.mem_of_getElem? (i := 89) (rfl : tables_1_1[89]? = some _))) rfl
theorem gm_77 : (.fieldLink RX2 41 "BirthStreet" "isKept" "Z" : Cond) ∈ gG := gm_t (List.mem_append_left _ (List.mem_of_getElem? (i := 90) (rfl : tables_1_1[90]? = some _))) rfl
theorem gm_78 : (.fieldLink RX2 45 "BirthStreet" "wouldBe" "LBirthStreet$Row;" : Cond) ∈ gG := gm_t (List.mem_append_left _ (List.mem_of_getElem? (i := 91) (rfl : tables_1_1[91]? = some _))) rfl
theorem gm_79 : (.fieldLink RX2 48 "BirthStreet" "possible" "LBirthStreet$Row;" : Cond) ∈ gG := gm_t (List.mem_append_left _ (List.mem_of_getElem? (i := 92) (rfl : tables_1_1[92]? = some _))) rfl
theorem gm_80 : (.fieldLink RX2 51 "BirthStreet" "tally" "LBirthStreet$Row;" : Cond) ∈ gG := gm_t (List.mem_append_left _ (List.mem_of_getElem? (i := 93) (rfl : tables_1_1[93]? = some _))) rfl
theorem gm_81 : (.laysFinal RX2 "BirthStreet" "page" "LBirthStreet$Row;" : Cond) ∈ gG := gm_t (List.mem_append_left _ (List.mem_of_getElem? (i := 94) (rfl : tables_1_1[94]? = some _))) rfl
theorem gm_82 : (.lays RX2 "BirthStreet" "letters" "I" : Cond) ∈ gG := gm_t (List.mem_append_left _ (List.mem_of_getElem? (i := 96) (rfl : tables_1_1[96]? = some _))) rfl
theorem gm_83 : (.lays RX2 "BirthStreet" "houses" "I" : Cond) ∈ gG := gm_t (List.mem_append_left _ (List.mem_of_getElem? (i := 98) (rfl : tables_1_1[98]? = some _))) rfl
theorem gm_84 : (.lays RX2 "BirthStreet" "streetsRead" "I" : Cond) ∈ gG := gm_t (List.mem_append_left _ (List.mem_of_getElem? (i := 100) (rfl : tables_1_1[100]? = some _))) rfl
theorem gm_85 : (.laysFinal RX2 "BirthStreet" "kinds" "LBirthStreet$Row;" : Cond) ∈ gG := gm_t (List.mem_append_left _ (List.mem_of_getElem? (i := 102) (rfl : tables_1_1[102]? = some _))) rfl
theorem gm_86 : (.laysFinal RX2 "BirthStreet" "now" "LBirthStreet$Moment;" : Cond) ∈ gG := gm_t (List.mem_append_left _ (List.mem_of_getElem? (i := 104) (rfl : tables_1_1[104]? = some _))) rfl
theorem gm_87 : (.laysFinal RX2 "BirthStreet" "kept" "LBirthStreet$Moment;" : Cond) ∈ gG := gm_t (List.mem_append_left _ (List.mem_of_getElem? (i := 106) (rfl : tables_1_1[106]? = some _))) rfl
theorem gm_88 : (.lays RX2 "BirthStreet" "isKept" "Z" : Cond) ∈ gG := gm_t (List.mem_append_left _ (List.mem_of_getElem? (i := 108) (rfl : tables_1_1[108]? = some _))) rfl
theorem gm_89 : (.laysFinal RX2 "BirthStreet" "wouldBe" "LBirthStreet$Row;" : Cond) ∈ gG := gm_t (List.mem_append_left _ (List.mem_of_getElem? (i := 110) (rfl : tables_1_1[110]? = some _))) rfl
theorem gm_90 : (.laysFinal RX2 "BirthStreet" "possible" "LBirthStreet$Row;" : Cond) ∈ gG := gm_t (List.mem_append_left _ (List.mem_of_getElem? (i := 112) (rfl : tables_1_1[112]? = some _))) rfl
theorem gm_91 : (.laysFinal RX2 "BirthStreet" "tally" "LBirthStreet$Row;" : Cond) ∈ gG := gm_t (List.mem_append_left _ (List.mem_of_getElem? (i := 114) (rfl : tables_1_1[114]? = some _))) rfl
theorem gm_92 : (.methodLink RL 13 yX2_letter : Cond) ∈ gG := gm_t (List.mem_append_left _ (List.mem_of_getElem? (i := 117) (rfl : tables_1_1[117]? = some _))) rfl
theorem gm_93 : (.instanceMethod yX2_letter : Cond) ∈ gG := gm_t (List.mem_append_left _ (List.mem_of_getElem? (i := 118) (rfl : tables_1_1[118]? = some _))) rfl
theorem gm_94 : (.selects RX2 yX2_letter yX2_letter : Cond) ∈ gG := gm_t (List.mem_append_left _ (List.mem_of_getElem? (i := 119) (rfl : tables_1_1[119]? = some _))) rfl
theorem gm_95 : (.code yX2_letter cX2_letter 2 (some .int) : Cond) ∈ gG := gm_t (List.mem_append_left _ (List.mem_of_getElem? (i := 120) (rfl : tables_1_1[120]? = some _))) rfl
theorem gm_96 : (.methodLink RX2 54 yX1_put : Cond) ∈ gG := gm_t (List.mem_append_left _ (List.mem_of_getElem? (i := 121) (rfl : tables_1_1[121]? = some _))) rfl
theorem gm_97 : (.instanceMethod yX1_put : Cond) ∈ gG := gm_t (List.mem_append_left _ (List.mem_of_getElem? (i := 122) (rfl : tables_1_1[122]? = some _))) rfl
theorem gm_98 : (.selects RX1 yX1_put yX1_put : Cond) ∈ gG := gm_t (List.mem_append_left _ (List.mem_of_getElem? (i := 123) (rfl : tables_1_1[123]? = some _))) rfl
theorem gm_99 : (.code yX1_put cX1_put 3 none : Cond) ∈ gG := gm_t (List.mem_append_left _ (List.mem_of_getElem? (i := 124) (rfl : tables_1_1[124]? = some _))) rfl
theorem gm_100 : (.methodLink RL 18 yX2_blank : Cond) ∈ gG := gm_t (List.mem_append_left _ (List.mem_of_getElem? (i := 125) (rfl : tables_1_1[125]? = some _))) rfl
theorem gm_101 : (.instanceMethod yX2_blank : Cond) ∈ gG := gm_t (List.mem_append_left _ (List.mem_of_getElem? (i := 126) (rfl : tables_1_1[126]? = some _))) rfl
theorem gm_102 : (.selects RX2 yX2_blank yX2_blank : Cond) ∈ gG := gm_t (List.mem_append_left _ (List.mem_of_getElem? (i := 127) (rfl : tables_1_1[127]? = some _))) rfl
theorem gm_103 : (.code yX2_blank cX2_blank 2 (some .int) : Cond) ∈ gG := gm_t (List.mem_append_left _ (List.mem_of_getElem? (i := 128) (rfl : tables_1_1[128]? = some _))) rfl
theorem gm_104 : (.methodLink RL 23 yX2_fault : Cond) ∈ gG := gm_t (List.mem_append_left _ (List.mem_of_getElem? (i := 129) (rfl : tables_1_1[129]? = some _))) rfl
theorem gm_105 : (.instanceMethod yX2_fault : Cond) ∈ gG := gm_t (List.mem_append_left _ (List.mem_of_getElem? (i := 130) (rfl : tables_1_1[130]? = some _))) rfl
theorem gm_106 : (.selects RX2 yX2_fault yX2_fault : Cond) ∈ gG := gm_t (List.mem_append_left _ (List.mem_of_getElem? (i := 131) (rfl : tables_1_1[131]? = some _))) rfl
theorem gm_107 : (.code yX2_fault cX2_fault 2 (some .int) : Cond) ∈ gG := gm_t (List.mem_append_left _ (List.mem_of_getElem? (i := 132) (rfl : tables_1_1[132]? = some _))) rfl
theorem gm_108 : (.methodLink RX2 58 yX1_at : Cond) ∈ gG := gm_t (List.mem_append_left _ (List.mem_of_getElem? (i := 133) (rfl : tables_1_1[133]? = some _))) rfl
theorem gm_109 : (.instanceMethod yX1_at : Cond) ∈ gG := gm_t (List.mem_append_left _ (List.mem_of_getElem? (i := 134) (rfl : tables_1_1[134]? = some _))) rfl
theorem gm_110 : (.selects RX1 yX1_at yX1_at : Cond) ∈ gG := gm_t (List.mem_append_left _ (List.mem_of_getElem? (i := 135) (rfl : tables_1_1[135]? = some _))) rfl
theorem gm_111 : (.code yX1_at cX1_at 2 (some .int) : Cond) ∈ gG := gm_t (List.mem_append_left _ (List.mem_of_getElem? (i := 136) (rfl : tables_1_1[136]? = some _))) rfl
theorem gm_112 : (.methodLink RX2 62 yX2_canStandAt : Cond) ∈ gG := gm_t (List.mem_append_left _ (List.mem_of_getElem? (i := 137) (rfl : tables_1_1[137]? = some _))) rfl
theorem gm_113 : (.static yX2_canStandAt : Cond) ∈ gG := gm_t (List.mem_append_left _ (List.mem_of_getElem? (i := 138) (rfl : tables_1_1[138]? = some _))) rfl
theorem gm_114 : (.code yX2_canStandAt cX2_canStandAt 2 (some .boolean) : Cond) ∈ gG := gm_t (List.mem_append_left _ (List.mem_of_getElem? (i := 139) (rfl : tables_1_1[139]? = some _))) rfl
theorem gm_115 : (.methodLink RX2 73 yX2_kindOfLetter : Cond) ∈ gG := gm_t (List.mem_append_left _ (List.mem_of_getElem? (i := 140) (rfl : tables_1_1[140]? = some _))) rfl
theorem gm_116 : (.static yX2_kindOfLetter : Cond) ∈ gG := gm_t (List.mem_append_left _ (List.mem_of_getElem? (i := 141) (rfl : tables_1_1[141]? = some _))) rfl
theorem gm_117 : (.code yX2_kindOfLetter cX2_kindOfLetter 2 (some .int) : Cond) ∈ gG := gm_t (List.mem_append_left _ (List.mem_of_getElem? (i := 142) (rfl : tables_1_1[142]? = some _))) rfl
theorem gn_118 : (.stringRef RX2 233 "htmcb" : Cond) ∈ lw_tbl := List.mem_append_right _ (List.mem_append_left _ (List.mem_of_getElem? (i := 143) (rfl : tables_1_1[143]? = some _)))
theorem gm_119 : (.methodLink RX2 235 yJ0_length_8abf5 : Cond) ∈ gG := gm_t (List.mem_append_left _ (List.mem_of_getElem? (i := 144) (rfl : tables_1_1[144]? = some _))) rfl
theorem gm_120 : (.instanceMethod yJ0_length_8abf5 : Cond) ∈ gG := gm_t (List.mem_append_left _ (List.mem_of_getElem? (i := 145) (rfl : tables_1_1[145]? = some _))) rfl
theorem gm_121 : (.selects RJ0 yJ0_length_8abf5 yJ0_length_8abf5 : Cond) ∈ gG := gm_t (List.mem_append_left _ (List.mem_of_getElem? (i := 146) (rfl : tables_1_1[146]? = some _))) rfl
theorem gm_122 : (.code yJ0_length_8abf5 cJ0_length_8abf5 1 (some .int) : Cond) ∈ gG := gm_t (List.mem_append_left _ (List.mem_of_getElem? (i := 147) (rfl : tables_1_1[147]? = some _))) rfl
theorem gm_123 : (.methodLink RJ0 335 yJ0_coder_7d493 : Cond) ∈ gG := gm_t (List.mem_append_left _ (List.mem_of_getElem? (i := 148) (rfl : tables_1_1[148]? = some _))) rfl
theorem gm_124 : (.instanceMethod yJ0_coder_7d493 : Cond) ∈ gG := gm_t (List.mem_append_left _ (List.mem_of_getElem? (i := 149) (rfl : tables_1_1[149]? = some _))) rfl
theorem gm_125 : (.selects RJ0 yJ0_coder_7d493 yJ0_coder_7d493 : Cond) ∈ gG := gm_t (List.mem_append_left _ (List.mem_of_getElem? (i := 150) (rfl : tables_1_1[150]? = some _))) rfl
theorem gm_126 : (.code yJ0_coder_7d493 cJ0_coder_7d493 1 (some .byte) : Cond) ∈ gG := gm_t (List.mem_append_left _ (List.mem_of_getElem? (i := 151) (rfl : tables_1_1[151]? = some _))) rfl
theorem gm_127 : (.fieldLink RJ0 38 "java/lang/String" "COMPACT_STRINGS" "Z" : Cond) ∈ gG := gm_t (List.mem_append_left _ (List.mem_of_getElem? (i := 152) (rfl : tables_1_1[152]? = some _))) rfl
theorem gm_128 : (.methodLink RX2 240 yJ0_charAt_5068e : Cond) ∈ gG := gm_t (List.mem_append_left _ (List.mem_of_getElem? (i := 154) (rfl : tables_1_1[154]? = some _))) rfl
theorem gm_129 : (.instanceMethod yJ0_charAt_5068e : Cond) ∈ gG := gm_t (List.mem_append_left _ (List.mem_of_getElem? (i := 155) (rfl : tables_1_1[155]? = some _))) rfl
theorem gm_130 : (.selects RJ0 yJ0_charAt_5068e yJ0_charAt_5068e : Cond) ∈ gG := gm_t (List.mem_append_left _ (List.mem_of_getElem? (i := 156) (rfl : tables_1_1[156]? = some _))) rfl
theorem gm_131 : (.code yJ0_charAt_5068e cJ0_charAt_5068e 2 (some .char) : Cond) ∈ gG := gm_t (List.mem_append_left _ (List.mem_of_getElem? (i := 157) (rfl : tables_1_1[157]? = some _))) rfl
theorem gm_132 : (.methodLink RJ0 492 yJ0_isLatin1_aae02 : Cond) ∈ gG := gm_t (List.mem_append_left _ (List.mem_of_getElem? (i := 158) (rfl : tables_1_1[158]? = some _))) rfl
theorem gm_133 : (.instanceMethod yJ0_isLatin1_aae02 : Cond) ∈ gG := gm_t (List.mem_append_left _ (List.mem_of_getElem? (i := 159) (rfl : tables_1_1[159]? = some _))) rfl
theorem gm_134 : (.selects RJ0 yJ0_isLatin1_aae02 yJ0_isLatin1_aae02 : Cond) ∈ gG := gm_t (List.mem_append_left _ (List.mem_of_getElem? (i := 160) (rfl : tables_1_1[160]? = some _))) rfl
theorem gm_135 : (.code yJ0_isLatin1_aae02 cJ0_isLatin1_aae02 1 (some .boolean) : Cond) ∈ gG := gm_t (List.mem_append_left _ (List.mem_of_getElem? (i := 161) (rfl : tables_1_1[161]? = some _))) rfl
theorem gm_136 : (.methodLink RJ0 495 yJ1_charAt_3b067 : Cond) ∈ gG := gm_t (List.mem_append_left _ (List.mem_of_getElem? (i := 162) (rfl : tables_1_1[162]? = some _))) rfl
theorem gm_137 : (.static yJ1_charAt_3b067 : Cond) ∈ gG := gm_t (List.mem_append_left _ (List.mem_of_getElem? (i := 163) (rfl : tables_1_1[163]? = some _))) rfl
theorem gm_138 : (.code yJ1_charAt_3b067 cJ1_charAt_3b067 2 (some .char) : Cond) ∈ gG := gm_t (List.mem_append_left _ (List.mem_of_getElem? (i := 164) (rfl : tables_1_1[164]? = some _))) rfl
theorem gm_139 : (.methodLink RJ1 9 yJ0_checkIndex_df160 : Cond) ∈ gG := gm_t (List.mem_append_left _ (List.mem_of_getElem? (i := 165) (rfl : tables_1_1[165]? = some _))) rfl
theorem gm_140 : (.static yJ0_checkIndex_df160 : Cond) ∈ gG := gm_t (List.mem_append_left _ (List.mem_of_getElem? (i := 166) (rfl : tables_1_1[166]? = some _))) rfl
theorem gm_141 : (.code yJ0_checkIndex_df160 cJ0_checkIndex_df160 2 none : Cond) ∈ gG := gm_t (List.mem_append_left _ (List.mem_of_getElem? (i := 167) (rfl : tables_1_1[167]? = some _))) rfl
theorem gm_142 : (.fieldLink RJ0 1053 "jdk/internal/util/Preconditions" "SIOOBE_FORMATTER" "Ljava/util/function/BiFunction;" : Cond) ∈ gG := gm_t (List.mem_append_left _ (List.mem_of_getElem? (i := 168) (rfl : tables_1_1[168]? = some _))) rfl
theorem gm_143 : (.methodLink RJ0 1059 yJ3_checkIndex_8e157 : Cond) ∈ gG := gm_t (List.mem_append_left _ (List.mem_of_getElem? (i := 170) (rfl : tables_1_1[170]? = some _))) rfl
theorem gm_144 : (.static yJ3_checkIndex_8e157 : Cond) ∈ gG := gm_t (List.mem_append_left _ (List.mem_of_getElem? (i := 171) (rfl : tables_1_1[171]? = some _))) rfl
theorem gm_145 : (.code yJ3_checkIndex_8e157 cJ3_checkIndex_8e157 3 (some .int) : Cond) ∈ gG := gm_t (List.mem_append_left _ (List.mem_of_getElem? (i := 172) (rfl : tables_1_1[172]? = some _))) rfl
theorem gm_146 : (.methodLink RJ0 498 yJ2_charAt_3b067 : Cond) ∈ gG := gm_t (List.mem_append_left _ (List.mem_of_getElem? (i := 173) (rfl : tables_1_1[173]? = some _))) rfl
theorem gm_147 : (.static yJ2_charAt_3b067 : Cond) ∈ gG := gm_t (List.mem_append_left _ (List.mem_of_getElem? (i := 174) (rfl : tables_1_1[174]? = some _))) rfl
theorem gm_148 : (.code yJ2_charAt_3b067 cJ2_charAt_3b067 2 (some .char) : Cond) ∈ gG := gm_t (List.mem_append_left _ (List.mem_of_getElem? (i := 175) (rfl : tables_1_1[175]? = some _))) rfl
theorem gm_149 : (.methodLink RJ2 67 yJ2_checkIndex_2214a : Cond) ∈ gG := gm_t (List.mem_append_left _ (List.mem_of_getElem? (i := 176) (rfl : tables_1_1[176]? = some _))) rfl
theorem gm_150 : (.static yJ2_checkIndex_2214a : Cond) ∈ gG := gm_t (List.mem_append_left _ (List.mem_of_getElem? (i := 177) (rfl : tables_1_1[177]? = some _))) rfl
theorem gm_151 : (.code yJ2_checkIndex_2214a cJ2_checkIndex_2214a 2 none : Cond) ∈ gG := gm_t (List.mem_append_left _ (List.mem_of_getElem? (i := 178) (rfl : tables_1_1[178]? = some _))) rfl
theorem gm_152 : (.methodLink RJ2 48 yJ2_length_9d52b : Cond) ∈ gG := gm_t (List.mem_append_left _ (List.mem_of_getElem? (i := 179) (rfl : tables_1_1[179]? = some _))) rfl
theorem gm_153 : (.static yJ2_length_9d52b : Cond) ∈ gG := gm_t (List.mem_append_left _ (List.mem_of_getElem? (i := 180) (rfl : tables_1_1[180]? = some _))) rfl
theorem gm_154 : (.code yJ2_length_9d52b cJ2_length_9d52b 1 (some .int) : Cond) ∈ gG := gm_t (List.mem_append_left _ (List.mem_of_getElem? (i := 181) (rfl : tables_1_1[181]? = some _))) rfl
theorem gm_155 : (.methodLink RJ2 414 yJ0_checkIndex_df160 : Cond) ∈ gG := gm_t (List.mem_append_left _ (List.mem_of_getElem? (i := 182) (rfl : tables_1_1[182]? = some _))) rfl
theorem gm_156 : (.methodLink RJ2 71 yJ2_getChar_3b067 : Cond) ∈ gG := gm_t (List.mem_append_left _ (List.mem_of_getElem? (i := 183) (rfl : tables_1_1[183]? = some _))) rfl
theorem gm_157 : (.static yJ2_getChar_3b067 : Cond) ∈ gG := gm_t (List.mem_append_left _ (List.mem_of_getElem? (i := 184) (rfl : tables_1_1[184]? = some _))) rfl
theorem gm_158 : (.code yJ2_getChar_3b067 cJ2_getChar_3b067 2 (some .char) : Cond) ∈ gG := gm_t (List.mem_append_left _ (List.mem_of_getElem? (i := 185) (rfl : tables_1_1[185]? = some _))) rfl
theorem gm_159 : (.fieldLink RJ2 44 "java/lang/StringUTF16" "$assertionsDisabled" "Z" : Cond) ∈ gG := gm_t (List.mem_append_left _ (List.mem_of_getElem? (i := 186) (rfl : tables_1_1[186]? = some _))) rfl
theorem gm_160 : (.fieldLink RJ2 59 "java/lang/StringUTF16" "HI_BYTE_SHIFT" "I" : Cond) ∈ gG := gm_t (List.mem_append_left _ (List.mem_of_getElem? (i := 188) (rfl : tables_1_1[188]? = some _))) rfl
theorem gm_161 : (.fieldLink RJ2 63 "java/lang/StringUTF16" "LO_BYTE_SHIFT" "I" : Cond) ∈ gG := gm_t (List.mem_append_left _ (List.mem_of_getElem? (i := 190) (rfl : tables_1_1[190]? = some _))) rfl
theorem gm_162 : (.arrayClass .byte : Cond) ∈ gG := gm_t (List.mem_append_left _ (List.mem_of_getElem? (i := 192) (rfl : tables_1_1[192]? = some _))) rfl
theorem gm_163 : (.methodLink RL 27 yX2_street : Cond) ∈ gG := gm_t (List.mem_append_left _ (List.mem_of_getElem? (i := 193) (rfl : tables_1_1[193]? = some _))) rfl
theorem gm_164 : (.instanceMethod yX2_street : Cond) ∈ gG := gm_t (List.mem_append_left _ (List.mem_of_getElem? (i := 194) (rfl : tables_1_1[194]? = some _))) rfl
theorem gm_165 : (.selects RX2 yX2_street yX2_street : Cond) ∈ gG := gm_t (List.mem_append_left _ (List.mem_of_getElem? (i := 195) (rfl : tables_1_1[195]? = some _))) rfl
theorem gm_166 : (.code yX2_street cX2_street 4 (some .int) : Cond) ∈ gG := gm_t (List.mem_append_left _ (List.mem_of_getElem? (i := 196) (rfl : tables_1_1[196]? = some _))) rfl
theorem gm_167 : (.methodLink RX2 66 yX2_housesOnPage : Cond) ∈ gG := gm_t (List.mem_append_left _ (List.mem_of_getElem? (i := 197) (rfl : tables_1_1[197]? = some _))) rfl
theorem gm_168 : (.instanceMethod yX2_housesOnPage : Cond) ∈ gG := gm_t (List.mem_append_left _ (List.mem_of_getElem? (i := 199) (rfl : tables_1_1[199]? = some _))) rfl
theorem gm_169 : (.code yX2_housesOnPage cX2_housesOnPage 2 (some .int) : Cond) ∈ gG := gm_t (List.mem_append_left _ (List.mem_of_getElem? (i := 200) (rfl : tables_1_1[200]? = some _))) rfl
theorem gm_170 : (.methodLink RX2 244 yX2_fault : Cond) ∈ gG := gm_t (List.mem_append_left _ (List.mem_of_getElem? (i := 201) (rfl : tables_1_1[201]? = some _))) rfl
theorem gm_171 : (.methodLink RX2 70 yX0_startAnew : Cond) ∈ gG := gm_t (List.mem_append_left _ (List.mem_of_getElem? (i := 202) (rfl : tables_1_1[202]? = some _))) rfl
theorem gm_172 : (.instanceMethod yX0_startAnew : Cond) ∈ gG := gm_t (List.mem_append_left _ (List.mem_of_getElem? (i := 203) (rfl : tables_1_1[203]? = some _))) rfl
theorem gm_173 : (.selects RX0 yX0_startAnew yX0_startAnew : Cond) ∈ gG := gm_t (List.mem_append_left _ (List.mem_of_getElem? (i := 204) (rfl : tables_1_1[204]? = some _))) rfl
theorem gm_174 : (.code yX0_startAnew cX0_startAnew 1 none : Cond) ∈ gG := gm_t (List.mem_append_left _ (List.mem_of_getElem? (i := 205) (rfl : tables_1_1[205]? = some _))) rfl
theorem gm_175 : (.methodLink RX0 51 yX1_clear : Cond) ∈ gG := gm_t (List.mem_append_left _ (List.mem_of_getElem? (i := 206) (rfl : tables_1_1[206]? = some _))) rfl
theorem gm_176 : (.instanceMethod yX1_clear : Cond) ∈ gG := gm_t (List.mem_append_left _ (List.mem_of_getElem? (i := 207) (rfl : tables_1_1[207]? = some _))) rfl
theorem gm_177 : (.selects RX1 yX1_clear yX1_clear : Cond) ∈ gG := gm_t (List.mem_append_left _ (List.mem_of_getElem? (i := 208) (rfl : tables_1_1[208]? = some _))) rfl
theorem gm_178 : (.code yX1_clear cX1_clear 2 none : Cond) ∈ gG := gm_t (List.mem_append_left _ (List.mem_of_getElem? (i := 209) (rfl : tables_1_1[209]? = some _))) rfl
theorem gm_179 : (.methodLink RL 31 yX2_about : Cond) ∈ gG := gm_t (List.mem_append_left _ (List.mem_of_getElem? (i := 210) (rfl : tables_1_1[210]? = some _))) rfl
theorem gm_180 : (.instanceMethod yX2_about : Cond) ∈ gG := gm_t (List.mem_append_left _ (List.mem_of_getElem? (i := 211) (rfl : tables_1_1[211]? = some _))) rfl
theorem gm_181 : (.selects RX2 yX2_about yX2_about : Cond) ∈ gG := gm_t (List.mem_append_left _ (List.mem_of_getElem? (i := 212) (rfl : tables_1_1[212]? = some _))) rfl
theorem gm_182 : (.code yX2_about cX2_about 3 (some .int) : Cond) ∈ gG := gm_t (List.mem_append_left _ (List.mem_of_getElem? (i := 213) (rfl : tables_1_1[213]? = some _))) rfl
theorem gm_183 : (.methodLink RX2 79 yX2_isHouse : Cond) ∈ gG := gm_t (List.mem_append_left _ (List.mem_of_getElem? (i := 214) (rfl : tables_1_1[214]? = some _))) rfl
theorem gm_184 : (.instanceMethod yX2_isHouse : Cond) ∈ gG := gm_t (List.mem_append_left _ (List.mem_of_getElem? (i := 216) (rfl : tables_1_1[216]? = some _))) rfl
theorem gm_185 : (.code yX2_isHouse cX2_isHouse 2 (some .boolean) : Cond) ∈ gG := gm_t (List.mem_append_left _ (List.mem_of_getElem? (i := 217) (rfl : tables_1_1[217]? = some _))) rfl
theorem gm_186 : (.methodLink RX2 83 yX2_numberNow : Cond) ∈ gG := gm_t (List.mem_append_left _ (List.mem_of_getElem? (i := 218) (rfl : tables_1_1[218]? = some _))) rfl
theorem gm_187 : (.instanceMethod yX2_numberNow : Cond) ∈ gG := gm_t (List.mem_append_left _ (List.mem_of_getElem? (i := 220) (rfl : tables_1_1[220]? = some _))) rfl
theorem gm_188 : (.code yX2_numberNow cX2_numberNow 2 (some .int) : Cond) ∈ gG := gm_t (List.mem_append_left _ (List.mem_of_getElem? (i := 221) (rfl : tables_1_1[221]? = some _))) rfl
theorem gm_189 : (.methodLink RX2 247 yX2_numberAt : Cond) ∈ gG := gm_t (List.mem_append_left _ (List.mem_of_getElem? (i := 222) (rfl : tables_1_1[222]? = some _))) rfl
theorem gm_190 : (.instanceMethod yX2_numberAt : Cond) ∈ gG := gm_t (List.mem_append_left _ (List.mem_of_getElem? (i := 224) (rfl : tables_1_1[224]? = some _))) rfl
theorem gm_191 : (.code yX2_numberAt cX2_numberAt 3 (some .int) : Cond) ∈ gG := gm_t (List.mem_append_left _ (List.mem_of_getElem? (i := 225) (rfl : tables_1_1[225]? = some _))) rfl
theorem gm_192 : (.methodLink RX2 156 yX2_numberOf : Cond) ∈ gG := gm_t (List.mem_append_left _ (List.mem_of_getElem? (i := 226) (rfl : tables_1_1[226]? = some _))) rfl
theorem gm_193 : (.static yX2_numberOf : Cond) ∈ gG := gm_t (List.mem_append_left _ (List.mem_of_getElem? (i := 227) (rfl : tables_1_1[227]? = some _))) rfl
theorem gm_194 : (.code yX2_numberOf cX2_numberOf 2 (some .int) : Cond) ∈ gG := gm_t (List.mem_append_left _ (List.mem_of_getElem? (i := 228) (rfl : tables_1_1[228]? = some _))) rfl
theorem gm_195 : (.methodLink RX2 89 yX2_owedBy : Cond) ∈ gG := gm_t (List.mem_append_left _ (List.mem_of_getElem? (i := 229) (rfl : tables_1_1[229]? = some _))) rfl
theorem gm_196 : (.instanceMethod yX2_owedBy : Cond) ∈ gG := gm_t (List.mem_append_left _ (List.mem_of_getElem? (i := 231) (rfl : tables_1_1[231]? = some _))) rfl
theorem gm_197 : (.code yX2_owedBy cX2_owedBy 4 (some .int) : Cond) ∈ gG := gm_t (List.mem_append_left _ (List.mem_of_getElem? (i := 232) (rfl : tables_1_1[232]? = some _))) rfl
theorem gm_198 : (.methodLink RX2 132 yX2_houseWith : Cond) ∈ gG := gm_t (List.mem_append_left _ (List.mem_of_getElem? (i := 233) (rfl : tables_1_1[233]? = some _))) rfl
theorem gm_199 : (.instanceMethod yX2_houseWith : Cond) ∈ gG := gm_t (List.mem_append_left _ (List.mem_of_getElem? (i := 235) (rfl : tables_1_1[235]? = some _))) rfl
theorem gm_200 : (.code yX2_houseWith cX2_houseWith 4 (some .int) : Cond) ∈ gG := gm_t (List.mem_append_left _ (List.mem_of_getElem? (i := 236) (rfl : tables_1_1[236]? = some _))) rfl
theorem gm_201 : (.methodLink RX2 129 yX2_numberOn : Cond) ∈ gG := gm_t (List.mem_append_left _ (List.mem_of_getElem? (i := 237) (rfl : tables_1_1[237]? = some _))) rfl
theorem gm_202 : (.instanceMethod yX2_numberOn : Cond) ∈ gG := gm_t (List.mem_append_left _ (List.mem_of_getElem? (i := 239) (rfl : tables_1_1[239]? = some _))) rfl
theorem gm_203 : (.code yX2_numberOn cX2_numberOn 4 (some .int) : Cond) ∈ gG := gm_t (List.mem_append_right _ (List.mem_append_left _ (List.mem_of_getElem? (i := 0) (rfl : tables_1_2[0]? = some _)))) rfl
theorem gm_204 : (.methodLink RX2 118 yX2_cellOf : Cond) ∈ gG := gm_t (List.mem_append_right _ (List.mem_append_left _ (List.mem_of_getElem? (i := 1) (rfl : tables_1_2[1]? = some _)))) rfl
theorem gm_205 : (.static yX2_cellOf : Cond) ∈ gG := gm_t (List.mem_append_right _ (List.mem_append_left _ (List.mem_of_getElem? (i := 2) (rfl : tables_1_2[2]? = some _)))) rfl
theorem gm_206 : (.code yX2_cellOf cX2_cellOf 2 (some .int) : Cond) ∈ gG := gm_t (List.mem_append_right _ (List.mem_append_left _ (List.mem_of_getElem? (i := 3) (rfl : tables_1_2[3]? = some _)))) rfl
theorem gm_207 : (.methodLink RX2 92 yX2_turnInWalk : Cond) ∈ gG := gm_t (List.mem_append_right _ (List.mem_append_left _ (List.mem_of_getElem? (i := 4) (rfl : tables_1_2[4]? = some _)))) rfl
theorem gm_208 : (.instanceMethod yX2_turnInWalk : Cond) ∈ gG := gm_t (List.mem_append_right _ (List.mem_append_left _ (List.mem_of_getElem? (i := 6) (rfl : tables_1_2[6]? = some _)))) rfl
theorem gm_209 : (.code yX2_turnInWalk cX2_turnInWalk 7 (some .int) : Cond) ∈ gG := gm_t (List.mem_append_right _ (List.mem_append_left _ (List.mem_of_getElem? (i := 7) (rfl : tables_1_2[7]? = some _)))) rfl
theorem gm_210 : (.methodLink RL 36 yX2_as : Cond) ∈ gG := gm_t (List.mem_append_right _ (List.mem_append_left _ (List.mem_of_getElem? (i := 8) (rfl : tables_1_2[8]? = some _)))) rfl
theorem gm_211 : (.instanceMethod yX2_as : Cond) ∈ gG := gm_t (List.mem_append_right _ (List.mem_append_left _ (List.mem_of_getElem? (i := 9) (rfl : tables_1_2[9]? = some _)))) rfl
theorem gm_212 : (.selects RX2 yX2_as yX2_as : Cond) ∈ gG := gm_t (List.mem_append_right _ (List.mem_append_left _ (List.mem_of_getElem? (i := 10) (rfl : tables_1_2[10]? = some _)))) rfl
theorem gm_213 : (.code yX2_as cX2_as 3 (some .int) : Cond) ∈ gG := gm_t (List.mem_append_right _ (List.mem_append_left _ (List.mem_of_getElem? (i := 11) (rfl : tables_1_2[11]? = some _)))) rfl
theorem gm_214 : (.methodLink RX2 96 yX2_isA : Cond) ∈ gG := gm_t (List.mem_append_right _ (List.mem_append_left _ (List.mem_of_getElem? (i := 12) (rfl : tables_1_2[12]? = some _)))) rfl
theorem gm_215 : (.static yX2_isA : Cond) ∈ gG := gm_t (List.mem_append_right _ (List.mem_append_left _ (List.mem_of_getElem? (i := 13) (rfl : tables_1_2[13]? = some _)))) rfl
theorem gm_216 : (.code yX2_isA cX2_isA 2 (some .boolean) : Cond) ∈ gG := gm_t (List.mem_append_right _ (List.mem_append_left _ (List.mem_of_getElem? (i := 14) (rfl : tables_1_2[14]? = some _)))) rfl
theorem gm_217 : (.methodLink RL 40 yX2_birth : Cond) ∈ gG := gm_t (List.mem_append_right _ (List.mem_append_left _ (List.mem_of_getElem? (i := 15) (rfl : tables_1_2[15]? = some _)))) rfl
theorem gm_218 : (.instanceMethod yX2_birth : Cond) ∈ gG := gm_t (List.mem_append_right _ (List.mem_append_left _ (List.mem_of_getElem? (i := 16) (rfl : tables_1_2[16]? = some _)))) rfl
theorem gm_219 : (.selects RX2 yX2_birth yX2_birth : Cond) ∈ gG := gm_t (List.mem_append_right _ (List.mem_append_left _ (List.mem_of_getElem? (i := 17) (rfl : tables_1_2[17]? = some _)))) rfl
theorem gm_220 : (.code yX2_birth cX2_birth 2 (some .int) : Cond) ∈ gG := gm_t (List.mem_append_right _ (List.mem_append_left _ (List.mem_of_getElem? (i := 18) (rfl : tables_1_2[18]? = some _)))) rfl
theorem gm_221 : (.methodLink RX2 99 yX2_bear : Cond) ∈ gG := gm_t (List.mem_append_right _ (List.mem_append_left _ (List.mem_of_getElem? (i := 19) (rfl : tables_1_2[19]? = some _)))) rfl
theorem gm_222 : (.instanceMethod yX2_bear : Cond) ∈ gG := gm_t (List.mem_append_right _ (List.mem_append_left _ (List.mem_of_getElem? (i := 21) (rfl : tables_1_2[21]? = some _)))) rfl
theorem gm_223 : (.code yX2_bear cX2_bear 3 none : Cond) ∈ gG := gm_t (List.mem_append_right _ (List.mem_append_left _ (List.mem_of_getElem? (i := 22) (rfl : tables_1_2[22]? = some _)))) rfl
theorem gm_224 : (.methodLink RX2 109 yX2_lendsACradle : Cond) ∈ gG := gm_t (List.mem_append_right _ (List.mem_append_left _ (List.mem_of_getElem? (i := 23) (rfl : tables_1_2[23]? = some _)))) rfl
theorem gm_225 : (.instanceMethod yX2_lendsACradle : Cond) ∈ gG := gm_t (List.mem_append_right _ (List.mem_append_left _ (List.mem_of_getElem? (i := 25) (rfl : tables_1_2[25]? = some _)))) rfl
theorem gm_226 : (.code yX2_lendsACradle cX2_lendsACradle 2 (some .boolean) : Cond) ∈ gG := gm_t (List.mem_append_right _ (List.mem_append_left _ (List.mem_of_getElem? (i := 26) (rfl : tables_1_2[26]? = some _)))) rfl
theorem gm_227 : (.methodLink RX2 106 yX1_add : Cond) ∈ gG := gm_t (List.mem_append_right _ (List.mem_append_left _ (List.mem_of_getElem? (i := 27) (rfl : tables_1_2[27]? = some _)))) rfl
theorem gm_228 : (.instanceMethod yX1_add : Cond) ∈ gG := gm_t (List.mem_append_right _ (List.mem_append_left _ (List.mem_of_getElem? (i := 28) (rfl : tables_1_2[28]? = some _)))) rfl
theorem gm_229 : (.selects RX1 yX1_add yX1_add : Cond) ∈ gG := gm_t (List.mem_append_right _ (List.mem_append_left _ (List.mem_of_getElem? (i := 29) (rfl : tables_1_2[29]? = some _)))) rfl
theorem gm_230 : (.code yX1_add cX1_add 3 none : Cond) ∈ gG := gm_t (List.mem_append_right _ (List.mem_append_left _ (List.mem_of_getElem? (i := 30) (rfl : tables_1_2[30]? = some _)))) rfl
theorem gm_231 : (.methodLink RX1 13 yX1_at : Cond) ∈ gG := gm_t (List.mem_append_right _ (List.mem_append_left _ (List.mem_of_getElem? (i := 31) (rfl : tables_1_2[31]? = some _)))) rfl
theorem gm_232 : (.methodLink RX1 17 yX1_put : Cond) ∈ gG := gm_t (List.mem_append_right _ (List.mem_append_left _ (List.mem_of_getElem? (i := 32) (rfl : tables_1_2[32]? = some _)))) rfl
theorem gm_233 : (.methodLink RL 44 yX2_day : Cond) ∈ gG := gm_t (List.mem_append_right _ (List.mem_append_left _ (List.mem_of_getElem? (i := 33) (rfl : tables_1_2[33]? = some _)))) rfl
theorem gm_234 : (.instanceMethod yX2_day : Cond) ∈ gG := gm_t (List.mem_append_right _ (List.mem_append_left _ (List.mem_of_getElem? (i := 34) (rfl : tables_1_2[34]? = some _)))) rfl
theorem gm_235 : (.selects RX2 yX2_day yX2_day : Cond) ∈ gG := gm_t (List.mem_append_right _ (List.mem_append_left _ (List.mem_of_getElem? (i := 35) (rfl : tables_1_2[35]? = some _)))) rfl
theorem gm_236 : (.code yX2_day cX2_day 2 (some .int) : Cond) ∈ gG := gm_t (List.mem_append_right _ (List.mem_append_left _ (List.mem_of_getElem? (i := 36) (rfl : tables_1_2[36]? = some _)))) rfl
theorem gm_237 : (.methodLink RX2 122 yX2_growOlder : Cond) ∈ gG := gm_t (List.mem_append_right _ (List.mem_append_left _ (List.mem_of_getElem? (i := 37) (rfl : tables_1_2[37]? = some _)))) rfl
theorem gm_238 : (.instanceMethod yX2_growOlder : Cond) ∈ gG := gm_t (List.mem_append_right _ (List.mem_append_left _ (List.mem_of_getElem? (i := 39) (rfl : tables_1_2[39]? = some _)))) rfl
theorem gm_239 : (.code yX2_growOlder cX2_growOlder 3 none : Cond) ∈ gG := gm_t (List.mem_append_right _ (List.mem_append_left _ (List.mem_of_getElem? (i := 40) (rfl : tables_1_2[40]? = some _)))) rfl
theorem gm_240 : (.methodLink RX2 159 yX2_ageNextDay : Cond) ∈ gG := gm_t (List.mem_append_right _ (List.mem_append_left _ (List.mem_of_getElem? (i := 41) (rfl : tables_1_2[41]? = some _)))) rfl
theorem gm_241 : (.static yX2_ageNextDay : Cond) ∈ gG := gm_t (List.mem_append_right _ (List.mem_append_left _ (List.mem_of_getElem? (i := 42) (rfl : tables_1_2[42]? = some _)))) rfl
theorem gm_242 : (.code yX2_ageNextDay cX2_ageNextDay 2 (some .int) : Cond) ∈ gG := gm_t (List.mem_append_right _ (List.mem_append_left _ (List.mem_of_getElem? (i := 43) (rfl : tables_1_2[43]? = some _)))) rfl
theorem gm_243 : (.methodLink RL 48 yX2_then : Cond) ∈ gG := gm_t (List.mem_append_right _ (List.mem_append_left _ (List.mem_of_getElem? (i := 44) (rfl : tables_1_2[44]? = some _)))) rfl
theorem gm_244 : (.instanceMethod yX2_then : Cond) ∈ gG := gm_t (List.mem_append_right _ (List.mem_append_left _ (List.mem_of_getElem? (i := 45) (rfl : tables_1_2[45]? = some _)))) rfl
theorem gm_245 : (.selects RX2 yX2_then yX2_then : Cond) ∈ gG := gm_t (List.mem_append_right _ (List.mem_append_left _ (List.mem_of_getElem? (i := 46) (rfl : tables_1_2[46]? = some _)))) rfl
theorem gm_246 : (.code yX2_then cX2_then 3 (some .int) : Cond) ∈ gG := gm_t (List.mem_append_right _ (List.mem_append_left _ (List.mem_of_getElem? (i := 47) (rfl : tables_1_2[47]? = some _)))) rfl
theorem gm_247 : (.methodLink RX2 126 yX2_isDay : Cond) ∈ gG := gm_t (List.mem_append_right _ (List.mem_append_left _ (List.mem_of_getElem? (i := 48) (rfl : tables_1_2[48]? = some _)))) rfl
theorem gm_248 : (.instanceMethod yX2_isDay : Cond) ∈ gG := gm_t (List.mem_append_right _ (List.mem_append_left _ (List.mem_of_getElem? (i := 50) (rfl : tables_1_2[50]? = some _)))) rfl
theorem gm_249 : (.code yX2_isDay cX2_isDay 2 (some .boolean) : Cond) ∈ gG := gm_t (List.mem_append_right _ (List.mem_append_left _ (List.mem_of_getElem? (i := 51) (rfl : tables_1_2[51]? = some _)))) rfl
theorem gm_250 : (.methodLink RL 52 yX2_goesTo : Cond) ∈ gG := gm_t (List.mem_append_right _ (List.mem_append_left _ (List.mem_of_getElem? (i := 52) (rfl : tables_1_2[52]? = some _)))) rfl
theorem gm_251 : (.instanceMethod yX2_goesTo : Cond) ∈ gG := gm_t (List.mem_append_right _ (List.mem_append_left _ (List.mem_of_getElem? (i := 53) (rfl : tables_1_2[53]? = some _)))) rfl
theorem gm_252 : (.selects RX2 yX2_goesTo yX2_goesTo : Cond) ∈ gG := gm_t (List.mem_append_right _ (List.mem_append_left _ (List.mem_of_getElem? (i := 54) (rfl : tables_1_2[54]? = some _)))) rfl
theorem gm_253 : (.code yX2_goesTo cX2_goesTo 3 (some .int) : Cond) ∈ gG := gm_t (List.mem_append_right _ (List.mem_append_left _ (List.mem_of_getElem? (i := 55) (rfl : tables_1_2[55]? = some _)))) rfl
theorem gm_254 : (.methodLink RL 56 yX2_walk : Cond) ∈ gG := gm_t (List.mem_append_right _ (List.mem_append_left _ (List.mem_of_getElem? (i := 56) (rfl : tables_1_2[56]? = some _)))) rfl
theorem gm_255 : (.instanceMethod yX2_walk : Cond) ∈ gG := gm_t (List.mem_append_right _ (List.mem_append_left _ (List.mem_of_getElem? (i := 57) (rfl : tables_1_2[57]? = some _)))) rfl
theorem gm_256 : (.selects RX2 yX2_walk yX2_walk : Cond) ∈ gG := gm_t (List.mem_append_right _ (List.mem_append_left _ (List.mem_of_getElem? (i := 58) (rfl : tables_1_2[58]? = some _)))) rfl
theorem gm_257 : (.code yX2_walk cX2_walk 1 (some .int) : Cond) ∈ gG := gm_t (List.mem_append_right _ (List.mem_append_left _ (List.mem_of_getElem? (i := 59) (rfl : tables_1_2[59]? = some _)))) rfl
theorem gm_258 : (.methodLink RX2 135 yX2_lengthOfWalk : Cond) ∈ gG := gm_t (List.mem_append_right _ (List.mem_append_left _ (List.mem_of_getElem? (i := 60) (rfl : tables_1_2[60]? = some _)))) rfl
theorem gm_259 : (.instanceMethod yX2_lengthOfWalk : Cond) ∈ gG := gm_t (List.mem_append_right _ (List.mem_append_left _ (List.mem_of_getElem? (i := 62) (rfl : tables_1_2[62]? = some _)))) rfl
theorem gm_260 : (.code yX2_lengthOfWalk cX2_lengthOfWalk 6 (some .int) : Cond) ∈ gG := gm_t (List.mem_append_right _ (List.mem_append_left _ (List.mem_of_getElem? (i := 63) (rfl : tables_1_2[63]? = some _)))) rfl
theorem gm_261 : (.methodLink RX2 250 yX2_houseOfTurn : Cond) ∈ gG := gm_t (List.mem_append_right _ (List.mem_append_left _ (List.mem_of_getElem? (i := 64) (rfl : tables_1_2[64]? = some _)))) rfl
theorem gm_262 : (.instanceMethod yX2_houseOfTurn : Cond) ∈ gG := gm_t (List.mem_append_right _ (List.mem_append_left _ (List.mem_of_getElem? (i := 66) (rfl : tables_1_2[66]? = some _)))) rfl
theorem gm_263 : (.code yX2_houseOfTurn cX2_houseOfTurn 4 (some .int) : Cond) ∈ gG := gm_t (List.mem_append_right _ (List.mem_append_left _ (List.mem_of_getElem? (i := 67) (rfl : tables_1_2[67]? = some _)))) rfl
theorem gm_264 : (.methodLink RX2 253 yJ9_abs_0f7a4 : Cond) ∈ gG := gm_t (List.mem_append_right _ (List.mem_append_left _ (List.mem_of_getElem? (i := 68) (rfl : tables_1_2[68]? = some _)))) rfl
theorem gm_265 : (.static yJ9_abs_0f7a4 : Cond) ∈ gG := gm_t (List.mem_append_right _ (List.mem_append_left _ (List.mem_of_getElem? (i := 69) (rfl : tables_1_2[69]? = some _)))) rfl
theorem gm_266 : (.code yJ9_abs_0f7a4 cJ9_abs_0f7a4 1 (some .int) : Cond) ∈ gG := gm_t (List.mem_append_right _ (List.mem_append_left _ (List.mem_of_getElem? (i := 70) (rfl : tables_1_2[70]? = some _)))) rfl
theorem gm_267 : (.methodLink RL 60 yX2_debt : Cond) ∈ gG := gm_t (List.mem_append_right _ (List.mem_append_left _ (List.mem_of_getElem? (i := 71) (rfl : tables_1_2[71]? = some _)))) rfl
theorem gm_268 : (.instanceMethod yX2_debt : Cond) ∈ gG := gm_t (List.mem_append_right _ (List.mem_append_left _ (List.mem_of_getElem? (i := 72) (rfl : tables_1_2[72]? = some _)))) rfl
theorem gm_269 : (.selects RX2 yX2_debt yX2_debt : Cond) ∈ gG := gm_t (List.mem_append_right _ (List.mem_append_left _ (List.mem_of_getElem? (i := 73) (rfl : tables_1_2[73]? = some _)))) rfl
theorem gm_270 : (.code yX2_debt cX2_debt 3 (some .int) : Cond) ∈ gG := gm_t (List.mem_append_right _ (List.mem_append_left _ (List.mem_of_getElem? (i := 74) (rfl : tables_1_2[74]? = some _)))) rfl
theorem gm_271 : (.methodLink RL 64 yX2_pay : Cond) ∈ gG := gm_t (List.mem_append_right _ (List.mem_append_left _ (List.mem_of_getElem? (i := 75) (rfl : tables_1_2[75]? = some _)))) rfl
theorem gm_272 : (.instanceMethod yX2_pay : Cond) ∈ gG := gm_t (List.mem_append_right _ (List.mem_append_left _ (List.mem_of_getElem? (i := 76) (rfl : tables_1_2[76]? = some _)))) rfl
theorem gm_273 : (.selects RX2 yX2_pay yX2_pay : Cond) ∈ gG := gm_t (List.mem_append_right _ (List.mem_append_left _ (List.mem_of_getElem? (i := 77) (rfl : tables_1_2[77]? = some _)))) rfl
theorem gm_274 : (.code yX2_pay cX2_pay 3 (some .int) : Cond) ∈ gG := gm_t (List.mem_append_right _ (List.mem_append_left _ (List.mem_of_getElem? (i := 78) (rfl : tables_1_2[78]? = some _)))) rfl
theorem gm_275 : (.methodLink RL 68 yX2_cheap : Cond) ∈ gG := gm_t (List.mem_append_right _ (List.mem_append_left _ (List.mem_of_getElem? (i := 79) (rfl : tables_1_2[79]? = some _)))) rfl
theorem gm_276 : (.instanceMethod yX2_cheap : Cond) ∈ gG := gm_t (List.mem_append_right _ (List.mem_append_left _ (List.mem_of_getElem? (i := 80) (rfl : tables_1_2[80]? = some _)))) rfl
theorem gm_277 : (.selects RX2 yX2_cheap yX2_cheap : Cond) ∈ gG := gm_t (List.mem_append_right _ (List.mem_append_left _ (List.mem_of_getElem? (i := 81) (rfl : tables_1_2[81]? = some _)))) rfl
theorem gm_278 : (.code yX2_cheap cX2_cheap 4 (some .int) : Cond) ∈ gG := gm_t (List.mem_append_right _ (List.mem_append_left _ (List.mem_of_getElem? (i := 82) (rfl : tables_1_2[82]? = some _)))) rfl
theorem gm_279 : (.methodLink RX2 148 yX2_cheapestSet : Cond) ∈ gG := gm_t (List.mem_append_right _ (List.mem_append_left _ (List.mem_of_getElem? (i := 83) (rfl : tables_1_2[83]? = some _)))) rfl
theorem gm_280 : (.instanceMethod yX2_cheapestSet : Cond) ∈ gG := gm_t (List.mem_append_right _ (List.mem_append_left _ (List.mem_of_getElem? (i := 85) (rfl : tables_1_2[85]? = some _)))) rfl
theorem gm_281 : (.code yX2_cheapestSet cX2_cheapestSet 5 (some .int) : Cond) ∈ gG := gm_t (List.mem_append_right _ (List.mem_append_left _ (List.mem_of_getElem? (i := 86) (rfl : tables_1_2[86]? = some _)))) rfl
theorem gm_282 : (.methodLink RX2 151 yJ6_bitCount_0f7a4 : Cond) ∈ gG := gm_t (List.mem_append_right _ (List.mem_append_left _ (List.mem_of_getElem? (i := 87) (rfl : tables_1_2[87]? = some _)))) rfl
theorem gm_283 : (.static yJ6_bitCount_0f7a4 : Cond) ∈ gG := gm_t (List.mem_append_right _ (List.mem_append_left _ (List.mem_of_getElem? (i := 88) (rfl : tables_1_2[88]? = some _)))) rfl
theorem gm_284 : (.code yJ6_bitCount_0f7a4 cJ6_bitCount_0f7a4 1 (some .int) : Cond) ∈ gG := gm_t (List.mem_append_right _ (List.mem_append_left _ (List.mem_of_getElem? (i := 89) (rfl : tables_1_2[89]? = some _)))) rfl
theorem gm_285 : (.constant RJ6 265 (1431655765 : Int32) : Cond) ∈ gG := gm_t (List.mem_append_right _ (List.mem_append_left _ (List.mem_of_getElem? (i := 90) (rfl : tables_1_2[90]? = some _)))) rfl
theorem gm_286 : (.constant RJ6 266 (858993459 : Int32) : Cond) ∈ gG := gm_t (List.mem_append_right _ (List.mem_append_left _ (List.mem_of_getElem? (i := 91) (rfl : tables_1_2[91]? = some _)))) rfl
theorem gm_287 : (.constant RJ6 267 (252645135 : Int32) : Cond) ∈ gG := gm_t (List.mem_append_right _ (List.mem_append_left _ (List.mem_of_getElem? (i := 92) (rfl : tables_1_2[92]? = some _)))) rfl
theorem gm_288 : (.methodLink RX2 258 yX2_mayAllBear : Cond) ∈ gG := gm_t (List.mem_append_right _ (List.mem_append_left _ (List.mem_of_getElem? (i := 93) (rfl : tables_1_2[93]? = some _)))) rfl
theorem gm_289 : (.instanceMethod yX2_mayAllBear : Cond) ∈ gG := gm_t (List.mem_append_right _ (List.mem_append_left _ (List.mem_of_getElem? (i := 95) (rfl : tables_1_2[95]? = some _)))) rfl
theorem gm_290 : (.code yX2_mayAllBear cX2_mayAllBear 3 (some .boolean) : Cond) ∈ gG := gm_t (List.mem_append_right _ (List.mem_append_left _ (List.mem_of_getElem? (i := 96) (rfl : tables_1_2[96]? = some _)))) rfl
theorem gm_291 : (.methodLink RX2 264 yX2_isIn : Cond) ∈ gG := gm_t (List.mem_append_right _ (List.mem_append_left _ (List.mem_of_getElem? (i := 97) (rfl : tables_1_2[97]? = some _)))) rfl
theorem gm_292 : (.static yX2_isIn : Cond) ∈ gG := gm_t (List.mem_append_right _ (List.mem_append_left _ (List.mem_of_getElem? (i := 98) (rfl : tables_1_2[98]? = some _)))) rfl
theorem gm_293 : (.code yX2_isIn cX2_isIn 2 (some .boolean) : Cond) ∈ gG := gm_t (List.mem_append_right _ (List.mem_append_left _ (List.mem_of_getElem? (i := 99) (rfl : tables_1_2[99]? = some _)))) rfl
theorem gm_294 : (.methodLink RX2 261 yX2_numbersBy : Cond) ∈ gG := gm_t (List.mem_append_right _ (List.mem_append_left _ (List.mem_of_getElem? (i := 100) (rfl : tables_1_2[100]? = some _)))) rfl
theorem gm_295 : (.instanceMethod yX2_numbersBy : Cond) ∈ gG := gm_t (List.mem_append_right _ (List.mem_append_left _ (List.mem_of_getElem? (i := 102) (rfl : tables_1_2[102]? = some _)))) rfl
theorem gm_296 : (.code yX2_numbersBy cX2_numbersBy 3 (some .int) : Cond) ∈ gG := gm_t (List.mem_append_right _ (List.mem_append_left _ (List.mem_of_getElem? (i := 103) (rfl : tables_1_2[103]? = some _)))) rfl
theorem gm_297 : (.methodLink RX2 180 yX1_take : Cond) ∈ gG := gm_t (List.mem_append_right _ (List.mem_append_left _ (List.mem_of_getElem? (i := 104) (rfl : tables_1_2[104]? = some _)))) rfl
theorem gm_298 : (.instanceMethod yX1_take : Cond) ∈ gG := gm_t (List.mem_append_right _ (List.mem_append_left _ (List.mem_of_getElem? (i := 105) (rfl : tables_1_2[105]? = some _)))) rfl
theorem gm_299 : (.selects RX1 yX1_take yX1_take : Cond) ∈ gG := gm_t (List.mem_append_right _ (List.mem_append_left _ (List.mem_of_getElem? (i := 106) (rfl : tables_1_2[106]? = some _)))) rfl
theorem gm_300 : (.code yX1_take cX1_take 3 none : Cond) ∈ gG := gm_t (List.mem_append_right _ (List.mem_append_left _ (List.mem_of_getElem? (i := 107) (rfl : tables_1_2[107]? = some _)))) rfl
theorem gm_301 : (.methodLink RX2 192 yX2_allNumbers : Cond) ∈ gG := gm_t (List.mem_append_right _ (List.mem_append_left _ (List.mem_of_getElem? (i := 108) (rfl : tables_1_2[108]? = some _)))) rfl
theorem gm_302 : (.instanceMethod yX2_allNumbers : Cond) ∈ gG := gm_t (List.mem_append_right _ (List.mem_append_left _ (List.mem_of_getElem? (i := 110) (rfl : tables_1_2[110]? = some _)))) rfl
theorem gm_303 : (.code yX2_allNumbers cX2_allNumbers 4 (some .int) : Cond) ∈ gG := gm_t (List.mem_append_right _ (List.mem_append_left _ (List.mem_of_getElem? (i := 111) (rfl : tables_1_2[111]? = some _)))) rfl
theorem gm_304 : (.methodLink RL 72 yX2_when : Cond) ∈ gG := gm_t (List.mem_append_right _ (List.mem_append_left _ (List.mem_of_getElem? (i := 112) (rfl : tables_1_2[112]? = some _)))) rfl
theorem gm_305 : (.instanceMethod yX2_when : Cond) ∈ gG := gm_t (List.mem_append_right _ (List.mem_append_left _ (List.mem_of_getElem? (i := 113) (rfl : tables_1_2[113]? = some _)))) rfl
theorem gm_306 : (.selects RX2 yX2_when yX2_when : Cond) ∈ gG := gm_t (List.mem_append_right _ (List.mem_append_left _ (List.mem_of_getElem? (i := 114) (rfl : tables_1_2[114]? = some _)))) rfl
theorem gm_307 : (.code yX2_when cX2_when 6 (some .int) : Cond) ∈ gG := gm_t (List.mem_append_right _ (List.mem_append_left _ (List.mem_of_getElem? (i := 115) (rfl : tables_1_2[115]? = some _)))) rfl
theorem gm_308 : (.methodLink RL 76 yX2_hear : Cond) ∈ gG := gm_t (List.mem_append_right _ (List.mem_append_left _ (List.mem_of_getElem? (i := 116) (rfl : tables_1_2[116]? = some _)))) rfl
theorem gm_309 : (.instanceMethod yX2_hear : Cond) ∈ gG := gm_t (List.mem_append_right _ (List.mem_append_left _ (List.mem_of_getElem? (i := 117) (rfl : tables_1_2[117]? = some _)))) rfl
theorem gm_310 : (.selects RX2 yX2_hear yX2_hear : Cond) ∈ gG := gm_t (List.mem_append_right _ (List.mem_append_left _ (List.mem_of_getElem? (i := 118) (rfl : tables_1_2[118]? = some _)))) rfl
theorem gm_311 : (.code yX2_hear cX2_hear 3 (some .int) : Cond) ∈ gG := gm_t (List.mem_append_right _ (List.mem_append_left _ (List.mem_of_getElem? (i := 119) (rfl : tables_1_2[119]? = some _)))) rfl
theorem gm_312 : (.methodLink RL 80 yX2_forget : Cond) ∈ gG := gm_t (List.mem_append_right _ (List.mem_append_left _ (List.mem_of_getElem? (i := 120) (rfl : tables_1_2[120]? = some _)))) rfl
theorem gm_313 : (.instanceMethod yX2_forget : Cond) ∈ gG := gm_t (List.mem_append_right _ (List.mem_append_left _ (List.mem_of_getElem? (i := 121) (rfl : tables_1_2[121]? = some _)))) rfl
theorem gm_314 : (.selects RX2 yX2_forget yX2_forget : Cond) ∈ gG := gm_t (List.mem_append_right _ (List.mem_append_left _ (List.mem_of_getElem? (i := 122) (rfl : tables_1_2[122]? = some _)))) rfl
theorem gm_315 : (.code yX2_forget cX2_forget 2 (some .int) : Cond) ∈ gG := gm_t (List.mem_append_right _ (List.mem_append_left _ (List.mem_of_getElem? (i := 123) (rfl : tables_1_2[123]? = some _)))) rfl
theorem gm_316 : (.methodLink RL 84 yX2_days : Cond) ∈ gG := gm_t (List.mem_append_right _ (List.mem_append_left _ (List.mem_of_getElem? (i := 124) (rfl : tables_1_2[124]? = some _)))) rfl
theorem gm_317 : (.instanceMethod yX2_days : Cond) ∈ gG := gm_t (List.mem_append_right _ (List.mem_append_left _ (List.mem_of_getElem? (i := 125) (rfl : tables_1_2[125]? = some _)))) rfl
theorem gm_318 : (.selects RX2 yX2_days yX2_days : Cond) ∈ gG := gm_t (List.mem_append_right _ (List.mem_append_left _ (List.mem_of_getElem? (i := 126) (rfl : tables_1_2[126]? = some _)))) rfl
theorem gm_319 : (.code yX2_days cX2_days 5 (some .int) : Cond) ∈ gG := gm_t (List.mem_append_right _ (List.mem_append_left _ (List.mem_of_getElem? (i := 127) (rfl : tables_1_2[127]? = some _)))) rfl
theorem gm_320 : (.methodLink RX2 171 yX2_canHaveBeen : Cond) ∈ gG := gm_t (List.mem_append_right _ (List.mem_append_left _ (List.mem_of_getElem? (i := 128) (rfl : tables_1_2[128]? = some _)))) rfl
theorem gm_321 : (.instanceMethod yX2_canHaveBeen : Cond) ∈ gG := gm_t (List.mem_append_right _ (List.mem_append_left _ (List.mem_of_getElem? (i := 130) (rfl : tables_1_2[130]? = some _)))) rfl
theorem gm_322 : (.code yX2_canHaveBeen cX2_canHaveBeen 3 (some .boolean) : Cond) ∈ gG := gm_t (List.mem_append_right _ (List.mem_append_left _ (List.mem_of_getElem? (i := 131) (rfl : tables_1_2[131]? = some _)))) rfl
theorem gm_323 : (.methodLink RL 88 yX2_ask : Cond) ∈ gG := gm_t (List.mem_append_right _ (List.mem_append_left _ (List.mem_of_getElem? (i := 132) (rfl : tables_1_2[132]? = some _)))) rfl
theorem gm_324 : (.instanceMethod yX2_ask : Cond) ∈ gG := gm_t (List.mem_append_right _ (List.mem_append_left _ (List.mem_of_getElem? (i := 133) (rfl : tables_1_2[133]? = some _)))) rfl
theorem gm_325 : (.selects RX2 yX2_ask yX2_ask : Cond) ∈ gG := gm_t (List.mem_append_right _ (List.mem_append_left _ (List.mem_of_getElem? (i := 134) (rfl : tables_1_2[134]? = some _)))) rfl
theorem gm_326 : (.code yX2_ask cX2_ask 5 (some .int) : Cond) ∈ gG := gm_t (List.mem_append_right _ (List.mem_append_left _ (List.mem_of_getElem? (i := 135) (rfl : tables_1_2[135]? = some _)))) rfl
theorem gm_327 : (.methodLink RX2 174 yX2_markPossibleDays : Cond) ∈ gG := gm_t (List.mem_append_right _ (List.mem_append_left _ (List.mem_of_getElem? (i := 136) (rfl : tables_1_2[136]? = some _)))) rfl
theorem gm_328 : (.instanceMethod yX2_markPossibleDays : Cond) ∈ gG := gm_t (List.mem_append_right _ (List.mem_append_left _ (List.mem_of_getElem? (i := 138) (rfl : tables_1_2[138]? = some _)))) rfl
theorem gm_329 : (.code yX2_markPossibleDays cX2_markPossibleDays 4 (some .int) : Cond) ∈ gG := gm_t (List.mem_append_right _ (List.mem_append_left _ (List.mem_of_getElem? (i := 139) (rfl : tables_1_2[139]? = some _)))) rfl
theorem gm_330 : (.methodLink RX2 177 yX2_mostLeftBy : Cond) ∈ gG := gm_t (List.mem_append_right _ (List.mem_append_left _ (List.mem_of_getElem? (i := 140) (rfl : tables_1_2[140]? = some _)))) rfl
theorem gm_331 : (.instanceMethod yX2_mostLeftBy : Cond) ∈ gG := gm_t (List.mem_append_right _ (List.mem_append_left _ (List.mem_of_getElem? (i := 142) (rfl : tables_1_2[142]? = some _)))) rfl
theorem gm_332 : (.code yX2_mostLeftBy cX2_mostLeftBy 5 (some .int) : Cond) ∈ gG := gm_t (List.mem_append_right _ (List.mem_append_left _ (List.mem_of_getElem? (i := 143) (rfl : tables_1_2[143]? = some _)))) rfl
theorem gm_333 : (.methodLink RX2 267 yX1_clear : Cond) ∈ gG := gm_t (List.mem_append_right _ (List.mem_append_left _ (List.mem_of_getElem? (i := 144) (rfl : tables_1_2[144]? = some _)))) rfl
theorem gm_334 : (.methodLink RX2 270 yJ9_max_7cf53 : Cond) ∈ gG := gm_t (List.mem_append_right _ (List.mem_append_left _ (List.mem_of_getElem? (i := 145) (rfl : tables_1_2[145]? = some _)))) rfl
theorem gm_335 : (.static yJ9_max_7cf53 : Cond) ∈ gG := gm_t (List.mem_append_right _ (List.mem_append_left _ (List.mem_of_getElem? (i := 146) (rfl : tables_1_2[146]? = some _)))) rfl
theorem gm_336 : (.code yJ9_max_7cf53 cJ9_max_7cf53 2 (some .int) : Cond) ∈ gG := gm_t (List.mem_append_right _ (List.mem_append_left _ (List.mem_of_getElem? (i := 147) (rfl : tables_1_2[147]? = some _)))) rfl
theorem gm_337 : (.methodLink RL 92 yX2_years : Cond) ∈ gG := gm_t (List.mem_append_right _ (List.mem_append_left _ (List.mem_of_getElem? (i := 148) (rfl : tables_1_2[148]? = some _)))) rfl
theorem gm_338 : (.instanceMethod yX2_years : Cond) ∈ gG := gm_t (List.mem_append_right _ (List.mem_append_left _ (List.mem_of_getElem? (i := 149) (rfl : tables_1_2[149]? = some _)))) rfl
theorem gm_339 : (.selects RX2 yX2_years yX2_years : Cond) ∈ gG := gm_t (List.mem_append_right _ (List.mem_append_left _ (List.mem_of_getElem? (i := 150) (rfl : tables_1_2[150]? = some _)))) rfl
theorem gm_340 : (.code yX2_years cX2_years 7 (some .int) : Cond) ∈ gG := gm_t (List.mem_append_right _ (List.mem_append_left _ (List.mem_of_getElem? (i := 151) (rfl : tables_1_2[151]? = some _)))) rfl
theorem gm_341 : (.methodLink RX2 183 yX2_nextSeed : Cond) ∈ gG := gm_t (List.mem_append_right _ (List.mem_append_left _ (List.mem_of_getElem? (i := 152) (rfl : tables_1_2[152]? = some _)))) rfl
theorem gm_342 : (.static yX2_nextSeed : Cond) ∈ gG := gm_t (List.mem_append_right _ (List.mem_append_left _ (List.mem_of_getElem? (i := 153) (rfl : tables_1_2[153]? = some _)))) rfl
theorem gm_343 : (.code yX2_nextSeed cX2_nextSeed 1 (some .int) : Cond) ∈ gG := gm_t (List.mem_append_right _ (List.mem_append_left _ (List.mem_of_getElem? (i := 154) (rfl : tables_1_2[154]? = some _)))) rfl
theorem gm_344 : (.constantLong RX2 273 (1103515245 : Int64) : Cond) ∈ gG := gm_t (List.mem_append_right _ (List.mem_append_left _ (List.mem_of_getElem? (i := 155) (rfl : tables_1_2[155]? = some _)))) rfl
theorem gm_345 : (.constantLong RX2 275 (12345 : Int64) : Cond) ∈ gG := gm_t (List.mem_append_right _ (List.mem_append_left _ (List.mem_of_getElem? (i := 156) (rfl : tables_1_2[156]? = some _)))) rfl
theorem gm_346 : (.constantLong RX2 277 (2147483648 : Int64) : Cond) ∈ gG := gm_t (List.mem_append_right _ (List.mem_append_left _ (List.mem_of_getElem? (i := 157) (rfl : tables_1_2[157]? = some _)))) rfl
theorem gm_347 : (.methodLink RX2 186 yX2_drawnHouse : Cond) ∈ gG := gm_t (List.mem_append_right _ (List.mem_append_left _ (List.mem_of_getElem? (i := 158) (rfl : tables_1_2[158]? = some _)))) rfl
theorem gm_348 : (.instanceMethod yX2_drawnHouse : Cond) ∈ gG := gm_t (List.mem_append_right _ (List.mem_append_left _ (List.mem_of_getElem? (i := 160) (rfl : tables_1_2[160]? = some _)))) rfl
theorem gm_349 : (.code yX2_drawnHouse cX2_drawnHouse 2 (some .int) : Cond) ∈ gG := gm_t (List.mem_append_right _ (List.mem_append_left _ (List.mem_of_getElem? (i := 161) (rfl : tables_1_2[161]? = some _)))) rfl
theorem gm_350 : (.constant RX2 279 (65536 : Int32) : Cond) ∈ gG := gm_t (List.mem_append_right _ (List.mem_append_left _ (List.mem_of_getElem? (i := 162) (rfl : tables_1_2[162]? = some _)))) rfl
theorem gm_351 : (.methodLink RX2 189 yX2_bearIfMayBe : Cond) ∈ gG := gm_t (List.mem_append_right _ (List.mem_append_left _ (List.mem_of_getElem? (i := 163) (rfl : tables_1_2[163]? = some _)))) rfl
theorem gm_352 : (.instanceMethod yX2_bearIfMayBe : Cond) ∈ gG := gm_t (List.mem_append_right _ (List.mem_append_left _ (List.mem_of_getElem? (i := 165) (rfl : tables_1_2[165]? = some _)))) rfl
theorem gm_353 : (.code yX2_bearIfMayBe cX2_bearIfMayBe 3 none : Cond) ∈ gG := gm_t (List.mem_append_right _ (List.mem_append_left _ (List.mem_of_getElem? (i := 166) (rfl : tables_1_2[166]? = some _)))) rfl
theorem gm_354 : (.methodLink RL 97 yX2_image : Cond) ∈ gG := gm_t (List.mem_append_right _ (List.mem_append_left _ (List.mem_of_getElem? (i := 167) (rfl : tables_1_2[167]? = some _)))) rfl
theorem gm_355 : (.instanceMethod yX2_image : Cond) ∈ gG := gm_t (List.mem_append_right _ (List.mem_append_left _ (List.mem_of_getElem? (i := 168) (rfl : tables_1_2[168]? = some _)))) rfl
theorem gm_356 : (.selects RX2 yX2_image yX2_image : Cond) ∈ gG := gm_t (List.mem_append_right _ (List.mem_append_left _ (List.mem_of_getElem? (i := 169) (rfl : tables_1_2[169]? = some _)))) rfl
theorem gm_357 : (.code yX2_image cX2_image 1 (some .int) : Cond) ∈ gG := gm_t (List.mem_append_right _ (List.mem_append_left _ (List.mem_of_getElem? (i := 170) (rfl : tables_1_2[170]? = some _)))) rfl
theorem gm_358 : (.methodLink RX2 195 yX0_take : Cond) ∈ gG := gm_t (List.mem_append_right _ (List.mem_append_left _ (List.mem_of_getElem? (i := 171) (rfl : tables_1_2[171]? = some _)))) rfl
theorem gm_359 : (.instanceMethod yX0_take : Cond) ∈ gG := gm_t (List.mem_append_right _ (List.mem_append_left _ (List.mem_of_getElem? (i := 172) (rfl : tables_1_2[172]? = some _)))) rfl
theorem gm_360 : (.selects RX0 yX0_take yX0_take : Cond) ∈ gG := gm_t (List.mem_append_right _ (List.mem_append_left _ (List.mem_of_getElem? (i := 173) (rfl : tables_1_2[173]? = some _)))) rfl
theorem gm_361 : (.code yX0_take cX0_take 2 none : Cond) ∈ gG := gm_t (List.mem_append_right _ (List.mem_append_left _ (List.mem_of_getElem? (i := 174) (rfl : tables_1_2[174]? = some _)))) rfl
theorem gm_362 : (.methodLink RX0 54 yX1_take : Cond) ∈ gG := gm_t (List.mem_append_right _ (List.mem_append_left _ (List.mem_of_getElem? (i := 175) (rfl : tables_1_2[175]? = some _)))) rfl
theorem gm_363 : (.methodLink RL 101 yX2_restore : Cond) ∈ gG := gm_t (List.mem_append_right _ (List.mem_append_left _ (List.mem_of_getElem? (i := 176) (rfl : tables_1_2[176]? = some _)))) rfl
theorem gm_364 : (.instanceMethod yX2_restore : Cond) ∈ gG := gm_t (List.mem_append_right _ (List.mem_append_left _ (List.mem_of_getElem? (i := 177) (rfl : tables_1_2[177]? = some _)))) rfl
theorem gm_365 : (.selects RX2 yX2_restore yX2_restore : Cond) ∈ gG := gm_t (List.mem_append_right _ (List.mem_append_left _ (List.mem_of_getElem? (i := 178) (rfl : tables_1_2[178]? = some _)))) rfl
theorem gm_366 : (.code yX2_restore cX2_restore 1 (some .int) : Cond) ∈ gG := gm_t (List.mem_append_right _ (List.mem_append_left _ (List.mem_of_getElem? (i := 179) (rfl : tables_1_2[179]? = some _)))) rfl
theorem gm_367 : (.methodLink RL 105 yX2_count : Cond) ∈ gG := gm_t (List.mem_append_right _ (List.mem_append_left _ (List.mem_of_getElem? (i := 180) (rfl : tables_1_2[180]? = some _)))) rfl
theorem gm_368 : (.instanceMethod yX2_count : Cond) ∈ gG := gm_t (List.mem_append_right _ (List.mem_append_left _ (List.mem_of_getElem? (i := 181) (rfl : tables_1_2[181]? = some _)))) rfl
theorem gm_369 : (.selects RX2 yX2_count yX2_count : Cond) ∈ gG := gm_t (List.mem_append_right _ (List.mem_append_left _ (List.mem_of_getElem? (i := 182) (rfl : tables_1_2[182]? = some _)))) rfl
theorem gm_370 : (.code yX2_count cX2_count 2 (some .int) : Cond) ∈ gG := gm_t (List.mem_append_right _ (List.mem_append_left _ (List.mem_of_getElem? (i := 183) (rfl : tables_1_2[183]? = some _)))) rfl
theorem gm_371 : (.methodLink RX2 198 yX2_unlikeNumbers : Cond) ∈ gG := gm_t (List.mem_append_right _ (List.mem_append_left _ (List.mem_of_getElem? (i := 184) (rfl : tables_1_2[184]? = some _)))) rfl
theorem gm_372 : (.instanceMethod yX2_unlikeNumbers : Cond) ∈ gG := gm_t (List.mem_append_right _ (List.mem_append_left _ (List.mem_of_getElem? (i := 186) (rfl : tables_1_2[186]? = some _)))) rfl
theorem gm_373 : (.code yX2_unlikeNumbers cX2_unlikeNumbers 3 (some .int) : Cond) ∈ gG := gm_t (List.mem_append_right _ (List.mem_append_left _ (List.mem_of_getElem? (i := 187) (rfl : tables_1_2[187]? = some _)))) rfl
theorem gm_374 : (.methodLink RX2 201 yX2_owedByAll : Cond) ∈ gG := gm_t (List.mem_append_right _ (List.mem_append_left _ (List.mem_of_getElem? (i := 188) (rfl : tables_1_2[188]? = some _)))) rfl
theorem gm_375 : (.instanceMethod yX2_owedByAll : Cond) ∈ gG := gm_t (List.mem_append_right _ (List.mem_append_left _ (List.mem_of_getElem? (i := 190) (rfl : tables_1_2[190]? = some _)))) rfl
theorem gm_376 : (.code yX2_owedByAll cX2_owedByAll 3 (some .int) : Cond) ∈ gG := gm_t (List.mem_append_right _ (List.mem_append_left _ (List.mem_of_getElem? (i := 191) (rfl : tables_1_2[191]? = some _)))) rfl
theorem gm_377 : (.methodLink RL 109 yX2_digest : Cond) ∈ gG := gm_t (List.mem_append_right _ (List.mem_append_left _ (List.mem_of_getElem? (i := 192) (rfl : tables_1_2[192]? = some _)))) rfl
theorem gm_378 : (.instanceMethod yX2_digest : Cond) ∈ gG := gm_t (List.mem_append_right _ (List.mem_append_left _ (List.mem_of_getElem? (i := 193) (rfl : tables_1_2[193]? = some _)))) rfl
theorem gm_379 : (.selects RX2 yX2_digest yX2_digest : Cond) ∈ gG := gm_t (List.mem_append_right _ (List.mem_append_left _ (List.mem_of_getElem? (i := 194) (rfl : tables_1_2[194]? = some _)))) rfl
theorem gm_380 : (.code yX2_digest cX2_digest 4 (some .long) : Cond) ∈ gG := gm_t (List.mem_append_right _ (List.mem_append_left _ (List.mem_of_getElem? (i := 195) (rfl : tables_1_2[195]? = some _)))) rfl
theorem gm_381 : (.constantLong RX2 204 (1033 : Int64) : Cond) ∈ gG := gm_t (List.mem_append_right _ (List.mem_append_left _ (List.mem_of_getElem? (i := 196) (rfl : tables_1_2[196]? = some _)))) rfl
theorem gm_382 : (.methodLink RX2 206 yX2_withHouse : Cond) ∈ gG := gm_t (List.mem_append_right _ (List.mem_append_left _ (List.mem_of_getElem? (i := 197) (rfl : tables_1_2[197]? = some _)))) rfl
theorem gm_383 : (.instanceMethod yX2_withHouse : Cond) ∈ gG := gm_t (List.mem_append_right _ (List.mem_append_left _ (List.mem_of_getElem? (i := 199) (rfl : tables_1_2[199]? = some _)))) rfl
theorem gm_384 : (.code yX2_withHouse cX2_withHouse 7 (some .long) : Cond) ∈ gG := gm_t (List.mem_append_right _ (List.mem_append_left _ (List.mem_of_getElem? (i := 200) (rfl : tables_1_2[200]? = some _)))) rfl
theorem gm_385 : (.methodLink RX2 228 yX2_about : Cond) ∈ gG := gm_t (List.mem_append_right _ (List.mem_append_left _ (List.mem_of_getElem? (i := 201) (rfl : tables_1_2[201]? = some _)))) rfl
theorem gm_386 : (.methodLink RX2 213 yX2_with : Cond) ∈ gG := gm_t (List.mem_append_right _ (List.mem_append_left _ (List.mem_of_getElem? (i := 202) (rfl : tables_1_2[202]? = some _)))) rfl
theorem gm_387 : (.static yX2_with : Cond) ∈ gG := gm_t (List.mem_append_right _ (List.mem_append_left _ (List.mem_of_getElem? (i := 203) (rfl : tables_1_2[203]? = some _)))) rfl
theorem gm_388 : (.code yX2_with cX2_with 3 (some .long) : Cond) ∈ gG := gm_t (List.mem_append_right _ (List.mem_append_left _ (List.mem_of_getElem? (i := 204) (rfl : tables_1_2[204]? = some _)))) rfl
theorem gm_389 : (.constantLong RX2 231 (31 : Int64) : Cond) ∈ gG := gm_t (List.mem_append_right _ (List.mem_append_left _ (List.mem_of_getElem? (i := 205) (rfl : tables_1_2[205]? = some _)))) rfl
theorem gm_390 : (.methodLink RX2 210 yX2_walk : Cond) ∈ gG := gm_t (List.mem_append_right _ (List.mem_append_left _ (List.mem_of_getElem? (i := 206) (rfl : tables_1_2[206]? = some _)))) rfl
theorem gm_391 : (.methodLink RX2 216 yX2_cheap : Cond) ∈ gG := gm_t (List.mem_append_right _ (List.mem_append_left _ (List.mem_of_getElem? (i := 207) (rfl : tables_1_2[207]? = some _)))) rfl
theorem gm_392 : (.methodLink RX2 219 yX2_days : Cond) ∈ gG := gm_t (List.mem_append_right _ (List.mem_append_left _ (List.mem_of_getElem? (i := 208) (rfl : tables_1_2[208]? = some _)))) rfl
theorem gm_393 : (.methodLink RX2 222 yX2_ask : Cond) ∈ gG := gm_t (List.mem_append_right _ (List.mem_append_left _ (List.mem_of_getElem? (i := 209) (rfl : tables_1_2[209]? = some _)))) rfl
theorem gm_394 : (.methodLink RX2 225 yX2_count : Cond) ∈ gG := gm_t (List.mem_append_right _ (List.mem_append_left _ (List.mem_of_getElem? (i := 210) (rfl : tables_1_2[210]? = some _)))) rfl
theorem gm_395 : (.classLink RL 10 RX3 : Cond) ∈ gG := gm_t (List.mem_append_right _ (List.mem_append_left _ (List.mem_of_getElem? (i := 211) (rfl : tables_1_2[211]? = some _)))) rfl
theorem gm_396 : (.instantiable RX3 32 : Cond) ∈ gG := gm_t (List.mem_append_right _ (List.mem_append_left _ (List.mem_of_getElem? (i := 212) (rfl : tables_1_2[212]? = some _)))) rfl
theorem gm_397 : (.methodLink RL 12 yX3_init : Cond) ∈ gG := gm_t (List.mem_append_right _ (List.mem_append_left _ (List.mem_of_getElem? (i := 213) (rfl : tables_1_2[213]? = some _)))) rfl
theorem gm_398 : (.instanceMethod yX3_init : Cond) ∈ gG := gm_t (List.mem_append_right _ (List.mem_append_left _ (List.mem_of_getElem? (i := 214) (rfl : tables_1_2[214]? = some _)))) rfl
theorem gm_399 : (.code yX3_init cX3_init 1 none : Cond) ∈ gG := gm_t (List.mem_append_right _ (List.mem_append_left _ (List.mem_of_getElem? (i := 215) (rfl : tables_1_2[215]? = some _)))) rfl
theorem gm_400 : (.methodLink RX3 1 objectInit : Cond) ∈ gG := gm_t (List.mem_append_right _ (List.mem_append_left _ (List.mem_of_getElem? (i := 216) (rfl : tables_1_2[216]? = some _)))) rfl
theorem gm_401 : (.fieldLink RX3 85 "BirthStreetModel" "streets" "I" : Cond) ∈ gG := gm_t (List.mem_append_right _ (List.mem_append_left _ (List.mem_of_getElem? (i := 217) (rfl : tables_1_2[217]? = some _)))) rfl
theorem gm_402 : (.fieldLink RX3 82 "BirthStreetModel" "houses" "I" : Cond) ∈ gG := gm_t (List.mem_append_right _ (List.mem_append_left _ (List.mem_of_getElem? (i := 218) (rfl : tables_1_2[218]? = some _)))) rfl
theorem gm_403 : (.fieldLink RX3 7 "BirthStreetModel" "kindOf" "[I" : Cond) ∈ gG := gm_t (List.mem_append_right _ (List.mem_append_left _ (List.mem_of_getElem? (i := 219) (rfl : tables_1_2[219]? = some _)))) rfl
theorem gm_404 : (.fieldLink RX3 13 "BirthStreetModel" "ageOf" "[I" : Cond) ∈ gG := gm_t (List.mem_append_right _ (List.mem_append_left _ (List.mem_of_getElem? (i := 220) (rfl : tables_1_2[220]? = some _)))) rfl
theorem gm_405 : (.fieldLink RX3 16 "BirthStreetModel" "birthsOf" "[I" : Cond) ∈ gG := gm_t (List.mem_append_right _ (List.mem_append_left _ (List.mem_of_getElem? (i := 221) (rfl : tables_1_2[221]? = some _)))) rfl
theorem gm_406 : (.fieldLink RX3 19 "BirthStreetModel" "ageThen" "[I" : Cond) ∈ gG := gm_t (List.mem_append_right _ (List.mem_append_left _ (List.mem_of_getElem? (i := 222) (rfl : tables_1_2[222]? = some _)))) rfl
theorem gm_407 : (.fieldLink RX3 88 "BirthStreetModel" "today" "I" : Cond) ∈ gG := gm_t (List.mem_append_right _ (List.mem_append_left _ (List.mem_of_getElem? (i := 223) (rfl : tables_1_2[223]? = some _)))) rfl
theorem gm_408 : (.fieldLink RX3 91 "BirthStreetModel" "births" "I" : Cond) ∈ gG := gm_t (List.mem_append_right _ (List.mem_append_left _ (List.mem_of_getElem? (i := 224) (rfl : tables_1_2[224]? = some _)))) rfl
theorem gm_409 : (.fieldLink RX3 94 "BirthStreetModel" "debts" "I" : Cond) ∈ gG := gm_t (List.mem_append_right _ (List.mem_append_left _ (List.mem_of_getElem? (i := 225) (rfl : tables_1_2[225]? = some _)))) rfl
theorem gm_410 : (.fieldLink RX3 22 "BirthStreetModel" "debtMuch" "[I" : Cond) ∈ gG := gm_t (List.mem_append_right _ (List.mem_append_left _ (List.mem_of_getElem? (i := 226) (rfl : tables_1_2[226]? = some _)))) rfl
theorem gm_411 : (.fieldLink RX3 25 "BirthStreetModel" "debtNumber" "[I" : Cond) ∈ gG := gm_t (List.mem_append_right _ (List.mem_append_left _ (List.mem_of_getElem? (i := 227) (rfl : tables_1_2[227]? = some _)))) rfl
theorem gm_412 : (.fieldLink RX3 97 "BirthStreetModel" "heard" "I" : Cond) ∈ gG := gm_t (List.mem_append_right _ (List.mem_append_left _ (List.mem_of_getElem? (i := 228) (rfl : tables_1_2[228]? = some _)))) rfl
theorem gm_413 : (.fieldLink RX3 28 "BirthStreetModel" "heardHouse" "[I" : Cond) ∈ gG := gm_t (List.mem_append_right _ (List.mem_append_left _ (List.mem_of_getElem? (i := 229) (rfl : tables_1_2[229]? = some _)))) rfl
theorem gm_414 : (.fieldLink RX3 31 "BirthStreetModel" "heardNumber" "[I" : Cond) ∈ gG := gm_t (List.mem_append_right _ (List.mem_append_left _ (List.mem_of_getElem? (i := 230) (rfl : tables_1_2[230]? = some _)))) rfl
theorem gm_415 : (.fieldLink RX3 66 "BirthStreetModel" "pageLength" "I" : Cond) ∈ gG := gm_t (List.mem_append_right _ (List.mem_append_left _ (List.mem_of_getElem? (i := 231) (rfl : tables_1_2[231]? = some _)))) rfl
theorem gm_416 : (.fieldLink RX3 34 "BirthStreetModel" "page" "[B" : Cond) ∈ gG := gm_t (List.mem_append_right _ (List.mem_append_left _ (List.mem_of_getElem? (i := 232) (rfl : tables_1_2[232]? = some _)))) rfl
theorem gm_417 : (.fieldLink RX3 38 "BirthStreetModel" "savedAge" "[I" : Cond) ∈ gG := gm_t (List.mem_append_right _ (List.mem_append_left _ (List.mem_of_getElem? (i := 233) (rfl : tables_1_2[233]? = some _)))) rfl
theorem gm_418 : (.fieldLink RX3 184 "BirthStreetModel" "seedNow" "J" : Cond) ∈ gG := gm_t (List.mem_append_right _ (List.mem_append_left _ (List.mem_of_getElem? (i := 234) (rfl : tables_1_2[234]? = some _)))) rfl
theorem gm_419 : (.fieldLink RX3 201 "BirthStreetModel" "isKept" "Z" : Cond) ∈ gG := gm_t (List.mem_append_right _ (List.mem_append_left _ (List.mem_of_getElem? (i := 235) (rfl : tables_1_2[235]? = some _)))) rfl
theorem gm_420 : (.fieldLink RX3 205 "BirthStreetModel" "keptStreet" "I" : Cond) ∈ gG := gm_t (List.mem_append_right _ (List.mem_append_left _ (List.mem_of_getElem? (i := 236) (rfl : tables_1_2[236]? = some _)))) rfl
theorem gm_421 : (.fieldLink RX3 208 "BirthStreetModel" "keptToday" "I" : Cond) ∈ gG := gm_t (List.mem_append_right _ (List.mem_append_left _ (List.mem_of_getElem? (i := 237) (rfl : tables_1_2[237]? = some _)))) rfl
theorem gm_422 : (.fieldLink RX3 211 "BirthStreetModel" "keptBirths" "I" : Cond) ∈ gG := gm_t (List.mem_append_right _ (List.mem_append_left _ (List.mem_of_getElem? (i := 238) (rfl : tables_1_2[238]? = some _)))) rfl
theorem gm_423 : (.fieldLink RX3 214 "BirthStreetModel" "keptDebts" "I" : Cond) ∈ gG := gm_t (List.mem_append_right _ (List.mem_append_left _ (List.mem_of_getElem? (i := 239) (rfl : tables_1_2[239]? = some _)))) rfl
theorem gm_424 : (.fieldLink RX3 217 "BirthStreetModel" "keptHeard" "I" : Cond) ∈ gG := gm_t (List.mem_append_right _ (List.mem_append_right _ (List.mem_append_left _ (List.mem_of_getElem? (i := 0) (rfl : tables_1_3[0]? = some _))))) rfl
theorem gm_425 : (.fieldLink RX3 41 "BirthStreetModel" "keptAge" "[I" : Cond) ∈ gG := gm_t (List.mem_append_right _ (List.mem_append_right _ (List.mem_append_left _ (List.mem_of_getElem? (i := 1) (rfl : tables_1_3[1]? = some _))))) rfl
theorem gm_426 : (.fieldLink RX3 44 "BirthStreetModel" "keptBirthsOf" "[I" : Cond) ∈ gG := gm_t (List.mem_append_right _ (List.mem_append_right _ (List.mem_append_left _ (List.mem_of_getElem? (i := 2) (rfl : tables_1_3[2]? = some _))))) rfl
theorem gm_427 : (.fieldLink RX3 47 "BirthStreetModel" "keptThen" "[I" : Cond) ∈ gG := gm_t (List.mem_append_right _ (List.mem_append_right _ (List.mem_append_left _ (List.mem_of_getElem? (i := 3) (rfl : tables_1_3[3]? = some _))))) rfl
theorem gm_428 : (.fieldLink RX3 50 "BirthStreetModel" "keptMuch" "[I" : Cond) ∈ gG := gm_t (List.mem_append_right _ (List.mem_append_right _ (List.mem_append_left _ (List.mem_of_getElem? (i := 4) (rfl : tables_1_3[4]? = some _))))) rfl
theorem gm_429 : (.fieldLink RX3 53 "BirthStreetModel" "keptNumber" "[I" : Cond) ∈ gG := gm_t (List.mem_append_right _ (List.mem_append_right _ (List.mem_append_left _ (List.mem_of_getElem? (i := 5) (rfl : tables_1_3[5]? = some _))))) rfl
theorem gm_430 : (.fieldLink RX3 56 "BirthStreetModel" "keptHouse" "[I" : Cond) ∈ gG := gm_t (List.mem_append_right _ (List.mem_append_right _ (List.mem_append_left _ (List.mem_of_getElem? (i := 6) (rfl : tables_1_3[6]? = some _))))) rfl
theorem gm_431 : (.fieldLink RX3 59 "BirthStreetModel" "keptHeardNumber" "[I" : Cond) ∈ gG := gm_t (List.mem_append_right _ (List.mem_append_right _ (List.mem_append_left _ (List.mem_of_getElem? (i := 7) (rfl : tables_1_3[7]? = some _))))) rfl
theorem gm_432 : (.fieldLink RX3 231 "BirthStreetModel" "h" "J" : Cond) ∈ gG := gm_t (List.mem_append_right _ (List.mem_append_right _ (List.mem_append_left _ (List.mem_of_getElem? (i := 8) (rfl : tables_1_3[8]? = some _))))) rfl
theorem gm_433 : (.lays RX3 "BirthStreetModel" "streets" "I" : Cond) ∈ gG := gm_t (List.mem_append_right _ (List.mem_append_right _ (List.mem_append_left _ (List.mem_of_getElem? (i := 9) (rfl : tables_1_3[9]? = some _))))) rfl
theorem gm_434 : (.lays RX3 "BirthStreetModel" "houses" "I" : Cond) ∈ gG := gm_t (List.mem_append_right _ (List.mem_append_right _ (List.mem_append_left _ (List.mem_of_getElem? (i := 11) (rfl : tables_1_3[11]? = some _))))) rfl
theorem gm_435 : (.laysFinal RX3 "BirthStreetModel" "kindOf" "[I" : Cond) ∈ gG := gm_t (List.mem_append_right _ (List.mem_append_right _ (List.mem_append_left _ (List.mem_of_getElem? (i := 13) (rfl : tables_1_3[13]? = some _))))) rfl
theorem gm_436 : (.laysFinal RX3 "BirthStreetModel" "ageOf" "[I" : Cond) ∈ gG := gm_t (List.mem_append_right _ (List.mem_append_right _ (List.mem_append_left _ (List.mem_of_getElem? (i := 15) (rfl : tables_1_3[15]? = some _))))) rfl
theorem gm_437 : (.laysFinal RX3 "BirthStreetModel" "birthsOf" "[I" : Cond) ∈ gG := gm_t (List.mem_append_right _ (List.mem_append_right _ (List.mem_append_left _ (List.mem_of_getElem? (i := 17) (rfl : tables_1_3[17]? = some _))))) rfl
theorem gm_438 : (.laysFinal RX3 "BirthStreetModel" "ageThen" "[I" : Cond) ∈ gG := gm_t (List.mem_append_right _ (List.mem_append_right _ (List.mem_append_left _ (List.mem_of_getElem? (i := 19) (rfl : tables_1_3[19]? = some _))))) rfl
theorem gm_439 : (.lays RX3 "BirthStreetModel" "today" "I" : Cond) ∈ gG := gm_t (List.mem_append_right _ (List.mem_append_right _ (List.mem_append_left _ (List.mem_of_getElem? (i := 21) (rfl : tables_1_3[21]? = some _))))) rfl
theorem gm_440 : (.lays RX3 "BirthStreetModel" "births" "I" : Cond) ∈ gG := gm_t (List.mem_append_right _ (List.mem_append_right _ (List.mem_append_left _ (List.mem_of_getElem? (i := 23) (rfl : tables_1_3[23]? = some _))))) rfl
theorem gm_441 : (.lays RX3 "BirthStreetModel" "debts" "I" : Cond) ∈ gG := gm_t (List.mem_append_right _ (List.mem_append_right _ (List.mem_append_left _ (List.mem_of_getElem? (i := 25) (rfl : tables_1_3[25]? = some _))))) rfl
theorem gm_442 : (.laysFinal RX3 "BirthStreetModel" "debtMuch" "[I" : Cond) ∈ gG := gm_t (List.mem_append_right _ (List.mem_append_right _ (List.mem_append_left _ (List.mem_of_getElem? (i := 27) (rfl : tables_1_3[27]? = some _))))) rfl
theorem gm_443 : (.laysFinal RX3 "BirthStreetModel" "debtNumber" "[I" : Cond) ∈ gG := gm_t (List.mem_append_right _ (List.mem_append_right _ (List.mem_append_left _ (List.mem_of_getElem? (i := 29) (rfl : tables_1_3[29]? = some _))))) rfl
theorem gm_444 : (.lays RX3 "BirthStreetModel" "heard" "I" : Cond) ∈ gG := gm_t (List.mem_append_right _ (List.mem_append_right _ (List.mem_append_left _ (List.mem_of_getElem? (i := 31) (rfl : tables_1_3[31]? = some _))))) rfl
theorem gm_445 : (.laysFinal RX3 "BirthStreetModel" "heardHouse" "[I" : Cond) ∈ gG := gm_t (List.mem_append_right _ (List.mem_append_right _ (List.mem_append_left _ (List.mem_of_getElem? (i := 33) (rfl : tables_1_3[33]? = some _))))) rfl
theorem gm_446 : (.laysFinal RX3 "BirthStreetModel" "heardNumber" "[I" : Cond) ∈ gG := gm_t (List.mem_append_right _ (List.mem_append_right _ (List.mem_append_left _ (List.mem_of_getElem? (i := 35) (rfl : tables_1_3[35]? = some _))))) rfl
theorem gm_447 : (.lays RX3 "BirthStreetModel" "pageLength" "I" : Cond) ∈ gG := gm_t (List.mem_append_right _ (List.mem_append_right _ (List.mem_append_left _ (List.mem_of_getElem? (i := 37) (rfl : tables_1_3[37]? = some _))))) rfl
theorem gm_448 : (.laysFinal RX3 "BirthStreetModel" "page" "[B" : Cond) ∈ gG := gm_t (List.mem_append_right _ (List.mem_append_right _ (List.mem_append_left _ (List.mem_of_getElem? (i := 39) (rfl : tables_1_3[39]? = some _))))) rfl
theorem gm_449 : (.laysFinal RX3 "BirthStreetModel" "savedAge" "[I" : Cond) ∈ gG := gm_t (List.mem_append_right _ (List.mem_append_right _ (List.mem_append_left _ (List.mem_of_getElem? (i := 41) (rfl : tables_1_3[41]? = some _))))) rfl
theorem gm_450 : (.lays RX3 "BirthStreetModel" "seedNow" "J" : Cond) ∈ gG := gm_t (List.mem_append_right _ (List.mem_append_right _ (List.mem_append_left _ (List.mem_of_getElem? (i := 43) (rfl : tables_1_3[43]? = some _))))) rfl
theorem gm_451 : (.lays RX3 "BirthStreetModel" "isKept" "Z" : Cond) ∈ gG := gm_t (List.mem_append_right _ (List.mem_append_right _ (List.mem_append_left _ (List.mem_of_getElem? (i := 45) (rfl : tables_1_3[45]? = some _))))) rfl
theorem gm_452 : (.lays RX3 "BirthStreetModel" "keptStreet" "I" : Cond) ∈ gG := gm_t (List.mem_append_right _ (List.mem_append_right _ (List.mem_append_left _ (List.mem_of_getElem? (i := 47) (rfl : tables_1_3[47]? = some _))))) rfl
theorem gm_453 : (.lays RX3 "BirthStreetModel" "keptToday" "I" : Cond) ∈ gG := gm_t (List.mem_append_right _ (List.mem_append_right _ (List.mem_append_left _ (List.mem_of_getElem? (i := 49) (rfl : tables_1_3[49]? = some _))))) rfl
theorem gm_454 : (.lays RX3 "BirthStreetModel" "keptBirths" "I" : Cond) ∈ gG := gm_t (List.mem_append_right _ (List.mem_append_right _ (List.mem_append_left _ (List.mem_of_getElem? (i := 51) (rfl : tables_1_3[51]? = some _))))) rfl
theorem gm_455 : (.lays RX3 "BirthStreetModel" "keptDebts" "I" : Cond) ∈ gG := gm_t (List.mem_append_right _ (List.mem_append_right _ (List.mem_append_left _ (List.mem_of_getElem? (i := 53) (rfl : tables_1_3[53]? = some _))))) rfl
theorem gm_456 : (.lays RX3 "BirthStreetModel" "keptHeard" "I" : Cond) ∈ gG := gm_t (List.mem_append_right _ (List.mem_append_right _ (List.mem_append_left _ (List.mem_of_getElem? (i := 55) (rfl : tables_1_3[55]? = some _))))) rfl
theorem gm_457 : (.laysFinal RX3 "BirthStreetModel" "keptAge" "[I" : Cond) ∈ gG := gm_t (List.mem_append_right _ (List.mem_append_right _ (List.mem_append_left _ (List.mem_of_getElem? (i := 57) (rfl : tables_1_3[57]? = some _))))) rfl
theorem gm_458 : (.laysFinal RX3 "BirthStreetModel" "keptBirthsOf" "[I" : Cond) ∈ gG := gm_t (List.mem_append_right _ (List.mem_append_right _ (List.mem_append_left _ (List.mem_of_getElem? (i := 59) (rfl : tables_1_3[59]? = some _))))) rfl
theorem gm_459 : (.laysFinal RX3 "BirthStreetModel" "keptThen" "[I" : Cond) ∈ gG := gm_t (List.mem_append_right _ (List.mem_append_right _ (List.mem_append_left _ (List.mem_of_getElem? (i := 61) (rfl : tables_1_3[61]? = some _))))) rfl
theorem gm_460 : (.laysFinal RX3 "BirthStreetModel" "keptMuch" "[I" : Cond) ∈ gG := gm_t (List.mem_append_right _ (List.mem_append_right _ (List.mem_append_left _ (List.mem_of_getElem? (i := 63) (rfl : tables_1_3[63]? = some _))))) rfl
theorem gm_461 : (.laysFinal RX3 "BirthStreetModel" "keptNumber" "[I" : Cond) ∈ gG := gm_t (List.mem_append_right _ (List.mem_append_right _ (List.mem_append_left _ (List.mem_of_getElem? (i := 65) (rfl : tables_1_3[65]? = some _))))) rfl
theorem gm_462 : (.laysFinal RX3 "BirthStreetModel" "keptHouse" "[I" : Cond) ∈ gG := gm_t (List.mem_append_right _ (List.mem_append_right _ (List.mem_append_left _ (List.mem_of_getElem? (i := 67) (rfl : tables_1_3[67]? = some _))))) rfl
theorem gm_463 : (.laysFinal RX3 "BirthStreetModel" "keptHeardNumber" "[I" : Cond) ∈ gG := gm_t (List.mem_append_right _ (List.mem_append_right _ (List.mem_append_left _ (List.mem_of_getElem? (i := 69) (rfl : tables_1_3[69]? = some _))))) rfl
theorem gm_464 : (.lays RX3 "BirthStreetModel" "h" "J" : Cond) ∈ gG := gm_t (List.mem_append_right _ (List.mem_append_right _ (List.mem_append_left _ (List.mem_of_getElem? (i := 71) (rfl : tables_1_3[71]? = some _))))) rfl
theorem gm_465 : (.methodLink RL 17 yX3_letter : Cond) ∈ gG := gm_t (List.mem_append_right _ (List.mem_append_right _ (List.mem_append_left _ (List.mem_of_getElem? (i := 74) (rfl : tables_1_3[74]? = some _))))) rfl
theorem gm_466 : (.instanceMethod yX3_letter : Cond) ∈ gG := gm_t (List.mem_append_right _ (List.mem_append_right _ (List.mem_append_left _ (List.mem_of_getElem? (i := 75) (rfl : tables_1_3[75]? = some _))))) rfl
theorem gm_467 : (.selects RX3 yX3_letter yX3_letter : Cond) ∈ gG := gm_t (List.mem_append_right _ (List.mem_append_right _ (List.mem_append_left _ (List.mem_of_getElem? (i := 76) (rfl : tables_1_3[76]? = some _))))) rfl
theorem gm_468 : (.code yX3_letter cX3_letter 2 (some .int) : Cond) ∈ gG := gm_t (List.mem_append_right _ (List.mem_append_right _ (List.mem_append_left _ (List.mem_of_getElem? (i := 77) (rfl : tables_1_3[77]? = some _))))) rfl
theorem gm_469 : (.methodLink RX3 62 yX3_within : Cond) ∈ gG := gm_t (List.mem_append_right _ (List.mem_append_right _ (List.mem_append_left _ (List.mem_of_getElem? (i := 78) (rfl : tables_1_3[78]? = some _))))) rfl
theorem gm_470 : (.static yX3_within : Cond) ∈ gG := gm_t (List.mem_append_right _ (List.mem_append_right _ (List.mem_append_left _ (List.mem_of_getElem? (i := 79) (rfl : tables_1_3[79]? = some _))))) rfl
theorem gm_471 : (.code yX3_within cX3_within 3 (some .boolean) : Cond) ∈ gG := gm_t (List.mem_append_right _ (List.mem_append_right _ (List.mem_append_left _ (List.mem_of_getElem? (i := 80) (rfl : tables_1_3[80]? = some _))))) rfl
theorem gm_472 : (.methodLink RL 22 yX3_blank : Cond) ∈ gG := gm_t (List.mem_append_right _ (List.mem_append_right _ (List.mem_append_left _ (List.mem_of_getElem? (i := 81) (rfl : tables_1_3[81]? = some _))))) rfl
theorem gm_473 : (.instanceMethod yX3_blank : Cond) ∈ gG := gm_t (List.mem_append_right _ (List.mem_append_right _ (List.mem_append_left _ (List.mem_of_getElem? (i := 82) (rfl : tables_1_3[82]? = some _))))) rfl
theorem gm_474 : (.selects RX3 yX3_blank yX3_blank : Cond) ∈ gG := gm_t (List.mem_append_right _ (List.mem_append_right _ (List.mem_append_left _ (List.mem_of_getElem? (i := 83) (rfl : tables_1_3[83]? = some _))))) rfl
theorem gm_475 : (.code yX3_blank cX3_blank 2 (some .int) : Cond) ∈ gG := gm_t (List.mem_append_right _ (List.mem_append_right _ (List.mem_append_left _ (List.mem_of_getElem? (i := 84) (rfl : tables_1_3[84]? = some _))))) rfl
theorem gm_476 : (.methodLink RL 26 yX3_fault : Cond) ∈ gG := gm_t (List.mem_append_right _ (List.mem_append_right _ (List.mem_append_left _ (List.mem_of_getElem? (i := 85) (rfl : tables_1_3[85]? = some _))))) rfl
theorem gm_477 : (.instanceMethod yX3_fault : Cond) ∈ gG := gm_t (List.mem_append_right _ (List.mem_append_right _ (List.mem_append_left _ (List.mem_of_getElem? (i := 86) (rfl : tables_1_3[86]? = some _))))) rfl
theorem gm_478 : (.selects RX3 yX3_fault yX3_fault : Cond) ∈ gG := gm_t (List.mem_append_right _ (List.mem_append_right _ (List.mem_append_left _ (List.mem_of_getElem? (i := 87) (rfl : tables_1_3[87]? = some _))))) rfl
theorem gm_479 : (.code yX3_fault cX3_fault 1 (some .int) : Cond) ∈ gG := gm_t (List.mem_append_right _ (List.mem_append_right _ (List.mem_append_left _ (List.mem_of_getElem? (i := 88) (rfl : tables_1_3[88]? = some _))))) rfl
theorem gm_480 : (.methodLink RX3 78 yX3_faultNow : Cond) ∈ gG := gm_t (List.mem_append_right _ (List.mem_append_right _ (List.mem_append_left _ (List.mem_of_getElem? (i := 89) (rfl : tables_1_3[89]? = some _))))) rfl
theorem gm_481 : (.instanceMethod yX3_faultNow : Cond) ∈ gG := gm_t (List.mem_append_right _ (List.mem_append_right _ (List.mem_append_left _ (List.mem_of_getElem? (i := 91) (rfl : tables_1_3[91]? = some _))))) rfl
theorem gm_482 : (.code yX3_faultNow cX3_faultNow 2 (some .int) : Cond) ∈ gG := gm_t (List.mem_append_right _ (List.mem_append_right _ (List.mem_append_left _ (List.mem_of_getElem? (i := 92) (rfl : tables_1_3[92]? = some _))))) rfl
theorem gm_483 : (.methodLink RX3 74 yX3_isGood : Cond) ∈ gG := gm_t (List.mem_append_right _ (List.mem_append_right _ (List.mem_append_left _ (List.mem_of_getElem? (i := 93) (rfl : tables_1_3[93]? = some _))))) rfl
theorem gm_484 : (.instanceMethod yX3_isGood : Cond) ∈ gG := gm_t (List.mem_append_right _ (List.mem_append_right _ (List.mem_append_left _ (List.mem_of_getElem? (i := 95) (rfl : tables_1_3[95]? = some _))))) rfl
theorem gm_485 : (.code yX3_isGood cX3_isGood 3 (some .boolean) : Cond) ∈ gG := gm_t (List.mem_append_right _ (List.mem_append_right _ (List.mem_append_left _ (List.mem_of_getElem? (i := 96) (rfl : tables_1_3[96]? = some _))))) rfl
theorem gm_486 : (.methodLink RX3 70 yX3_kindBy : Cond) ∈ gG := gm_t (List.mem_append_right _ (List.mem_append_right _ (List.mem_append_left _ (List.mem_of_getElem? (i := 97) (rfl : tables_1_3[97]? = some _))))) rfl
theorem gm_487 : (.static yX3_kindBy : Cond) ∈ gG := gm_t (List.mem_append_right _ (List.mem_append_right _ (List.mem_append_left _ (List.mem_of_getElem? (i := 98) (rfl : tables_1_3[98]? = some _))))) rfl
theorem gm_488 : (.code yX3_kindBy cX3_kindBy 1 (some .int) : Cond) ∈ gG := gm_t (List.mem_append_right _ (List.mem_append_right _ (List.mem_append_left _ (List.mem_of_getElem? (i := 99) (rfl : tables_1_3[99]? = some _))))) rfl
theorem gm_489 : (.methodLink RL 30 yX3_street : Cond) ∈ gG := gm_t (List.mem_append_right _ (List.mem_append_right _ (List.mem_append_left _ (List.mem_of_getElem? (i := 100) (rfl : tables_1_3[100]? = some _))))) rfl
theorem gm_490 : (.instanceMethod yX3_street : Cond) ∈ gG := gm_t (List.mem_append_right _ (List.mem_append_right _ (List.mem_append_left _ (List.mem_of_getElem? (i := 101) (rfl : tables_1_3[101]? = some _))))) rfl
theorem gm_491 : (.selects RX3 yX3_street yX3_street : Cond) ∈ gG := gm_t (List.mem_append_right _ (List.mem_append_right _ (List.mem_append_left _ (List.mem_of_getElem? (i := 102) (rfl : tables_1_3[102]? = some _))))) rfl
theorem gm_492 : (.code yX3_street cX3_street 2 (some .int) : Cond) ∈ gG := gm_t (List.mem_append_right _ (List.mem_append_right _ (List.mem_append_left _ (List.mem_of_getElem? (i := 103) (rfl : tables_1_3[103]? = some _))))) rfl
theorem gm_493 : (.methodLink RL 35 yX3_about : Cond) ∈ gG := gm_t (List.mem_append_right _ (List.mem_append_right _ (List.mem_append_left _ (List.mem_of_getElem? (i := 104) (rfl : tables_1_3[104]? = some _))))) rfl
theorem gm_494 : (.instanceMethod yX3_about : Cond) ∈ gG := gm_t (List.mem_append_right _ (List.mem_append_right _ (List.mem_append_left _ (List.mem_of_getElem? (i := 105) (rfl : tables_1_3[105]? = some _))))) rfl
theorem gm_495 : (.selects RX3 yX3_about yX3_about : Cond) ∈ gG := gm_t (List.mem_append_right _ (List.mem_append_right _ (List.mem_append_left _ (List.mem_of_getElem? (i := 106) (rfl : tables_1_3[106]? = some _))))) rfl
theorem gm_496 : (.code yX3_about cX3_about 3 (some .int) : Cond) ∈ gG := gm_t (List.mem_append_right _ (List.mem_append_right _ (List.mem_append_left _ (List.mem_of_getElem? (i := 107) (rfl : tables_1_3[107]? = some _))))) rfl
theorem gm_497 : (.methodLink RX3 122 yX3_isHouse : Cond) ∈ gG := gm_t (List.mem_append_right _ (List.mem_append_right _ (List.mem_append_left _ (List.mem_of_getElem? (i := 108) (rfl : tables_1_3[108]? = some _))))) rfl
theorem gm_498 : (.instanceMethod yX3_isHouse : Cond) ∈ gG := gm_t (List.mem_append_right _ (List.mem_append_right _ (List.mem_append_left _ (List.mem_of_getElem? (i := 110) (rfl : tables_1_3[110]? = some _))))) rfl
theorem gm_499 : (.code yX3_isHouse cX3_isHouse 2 (some .boolean) : Cond) ∈ gG := gm_t (List.mem_append_right _ (List.mem_append_right _ (List.mem_append_left _ (List.mem_of_getElem? (i := 111) (rfl : tables_1_3[111]? = some _))))) rfl
theorem gm_500 : (.methodLink RX3 125 yX3_houseNow : Cond) ∈ gG := gm_t (List.mem_append_right _ (List.mem_append_right _ (List.mem_append_left _ (List.mem_of_getElem? (i := 112) (rfl : tables_1_3[112]? = some _))))) rfl
theorem gm_501 : (.instanceMethod yX3_houseNow : Cond) ∈ gG := gm_t (List.mem_append_right _ (List.mem_append_right _ (List.mem_append_left _ (List.mem_of_getElem? (i := 114) (rfl : tables_1_3[114]? = some _))))) rfl
theorem gm_502 : (.code yX3_houseNow cX3_houseNow 3 (some .int) : Cond) ∈ gG := gm_t (List.mem_append_right _ (List.mem_append_right _ (List.mem_append_left _ (List.mem_of_getElem? (i := 115) (rfl : tables_1_3[115]? = some _))))) rfl
theorem gm_503 : (.methodLink RX3 107 yX3_number : Cond) ∈ gG := gm_t (List.mem_append_right _ (List.mem_append_right _ (List.mem_append_left _ (List.mem_of_getElem? (i := 116) (rfl : tables_1_3[116]? = some _))))) rfl
theorem gm_504 : (.instanceMethod yX3_number : Cond) ∈ gG := gm_t (List.mem_append_right _ (List.mem_append_right _ (List.mem_append_left _ (List.mem_of_getElem? (i := 118) (rfl : tables_1_3[118]? = some _))))) rfl
theorem gm_505 : (.code yX3_number cX3_number 2 (some .int) : Cond) ∈ gG := gm_t (List.mem_append_right _ (List.mem_append_right _ (List.mem_append_left _ (List.mem_of_getElem? (i := 119) (rfl : tables_1_3[119]? = some _))))) rfl
theorem gm_506 : (.methodLink RX3 100 yX3_numberBy : Cond) ∈ gG := gm_t (List.mem_append_right _ (List.mem_append_right _ (List.mem_append_left _ (List.mem_of_getElem? (i := 120) (rfl : tables_1_3[120]? = some _))))) rfl
theorem gm_507 : (.instanceMethod yX3_numberBy : Cond) ∈ gG := gm_t (List.mem_append_right _ (List.mem_append_right _ (List.mem_append_left _ (List.mem_of_getElem? (i := 122) (rfl : tables_1_3[122]? = some _))))) rfl
theorem gm_508 : (.code yX3_numberBy cX3_numberBy 3 (some .int) : Cond) ∈ gG := gm_t (List.mem_append_right _ (List.mem_append_right _ (List.mem_append_left _ (List.mem_of_getElem? (i := 123) (rfl : tables_1_3[123]? = some _))))) rfl
theorem gm_509 : (.methodLink RX3 119 yX3_owes : Cond) ∈ gG := gm_t (List.mem_append_right _ (List.mem_append_right _ (List.mem_append_left _ (List.mem_of_getElem? (i := 124) (rfl : tables_1_3[124]? = some _))))) rfl
theorem gm_510 : (.instanceMethod yX3_owes : Cond) ∈ gG := gm_t (List.mem_append_right _ (List.mem_append_right _ (List.mem_append_left _ (List.mem_of_getElem? (i := 126) (rfl : tables_1_3[126]? = some _))))) rfl
theorem gm_511 : (.code yX3_owes cX3_owes 4 (some .int) : Cond) ∈ gG := gm_t (List.mem_append_right _ (List.mem_append_right _ (List.mem_append_left _ (List.mem_of_getElem? (i := 127) (rfl : tables_1_3[127]? = some _))))) rfl
theorem gm_512 : (.methodLink RX3 116 yX3_houseOf : Cond) ∈ gG := gm_t (List.mem_append_right _ (List.mem_append_right _ (List.mem_append_left _ (List.mem_of_getElem? (i := 128) (rfl : tables_1_3[128]? = some _))))) rfl
theorem gm_513 : (.instanceMethod yX3_houseOf : Cond) ∈ gG := gm_t (List.mem_append_right _ (List.mem_append_right _ (List.mem_append_left _ (List.mem_of_getElem? (i := 130) (rfl : tables_1_3[130]? = some _))))) rfl
theorem gm_514 : (.code yX3_houseOf cX3_houseOf 5 (some .int) : Cond) ∈ gG := gm_t (List.mem_append_right _ (List.mem_append_right _ (List.mem_append_left _ (List.mem_of_getElem? (i := 131) (rfl : tables_1_3[131]? = some _))))) rfl
theorem gm_515 : (.methodLink RX3 113 yX3_numberOn : Cond) ∈ gG := gm_t (List.mem_append_right _ (List.mem_append_right _ (List.mem_append_left _ (List.mem_of_getElem? (i := 132) (rfl : tables_1_3[132]? = some _))))) rfl
theorem gm_516 : (.instanceMethod yX3_numberOn : Cond) ∈ gG := gm_t (List.mem_append_right _ (List.mem_append_right _ (List.mem_append_left _ (List.mem_of_getElem? (i := 134) (rfl : tables_1_3[134]? = some _))))) rfl
theorem gm_517 : (.code yX3_numberOn cX3_numberOn 3 (some .int) : Cond) ∈ gG := gm_t (List.mem_append_right _ (List.mem_append_right _ (List.mem_append_left _ (List.mem_of_getElem? (i := 135) (rfl : tables_1_3[135]? = some _))))) rfl
theorem gm_518 : (.methodLink RX3 110 yX3_orderOf : Cond) ∈ gG := gm_t (List.mem_append_right _ (List.mem_append_right _ (List.mem_append_left _ (List.mem_of_getElem? (i := 136) (rfl : tables_1_3[136]? = some _))))) rfl
theorem gm_519 : (.instanceMethod yX3_orderOf : Cond) ∈ gG := gm_t (List.mem_append_right _ (List.mem_append_right _ (List.mem_append_left _ (List.mem_of_getElem? (i := 138) (rfl : tables_1_3[138]? = some _))))) rfl
theorem gm_520 : (.code yX3_orderOf cX3_orderOf 4 (some .int) : Cond) ∈ gG := gm_t (List.mem_append_right _ (List.mem_append_right _ (List.mem_append_left _ (List.mem_of_getElem? (i := 139) (rfl : tables_1_3[139]? = some _))))) rfl
theorem gm_521 : (.methodLink RL 39 yX3_as : Cond) ∈ gG := gm_t (List.mem_append_right _ (List.mem_append_right _ (List.mem_append_left _ (List.mem_of_getElem? (i := 140) (rfl : tables_1_3[140]? = some _))))) rfl
theorem gm_522 : (.instanceMethod yX3_as : Cond) ∈ gG := gm_t (List.mem_append_right _ (List.mem_append_right _ (List.mem_append_left _ (List.mem_of_getElem? (i := 141) (rfl : tables_1_3[141]? = some _))))) rfl
theorem gm_523 : (.selects RX3 yX3_as yX3_as : Cond) ∈ gG := gm_t (List.mem_append_right _ (List.mem_append_right _ (List.mem_append_left _ (List.mem_of_getElem? (i := 142) (rfl : tables_1_3[142]? = some _))))) rfl
theorem gm_524 : (.code yX3_as cX3_as 4 (some .int) : Cond) ∈ gG := gm_t (List.mem_append_right _ (List.mem_append_right _ (List.mem_append_left _ (List.mem_of_getElem? (i := 143) (rfl : tables_1_3[143]? = some _))))) rfl
theorem gm_525 : (.methodLink RL 43 yX3_birth : Cond) ∈ gG := gm_t (List.mem_append_right _ (List.mem_append_right _ (List.mem_append_left _ (List.mem_of_getElem? (i := 144) (rfl : tables_1_3[144]? = some _))))) rfl
theorem gm_526 : (.instanceMethod yX3_birth : Cond) ∈ gG := gm_t (List.mem_append_right _ (List.mem_append_right _ (List.mem_append_left _ (List.mem_of_getElem? (i := 145) (rfl : tables_1_3[145]? = some _))))) rfl
theorem gm_527 : (.selects RX3 yX3_birth yX3_birth : Cond) ∈ gG := gm_t (List.mem_append_right _ (List.mem_append_right _ (List.mem_append_left _ (List.mem_of_getElem? (i := 146) (rfl : tables_1_3[146]? = some _))))) rfl
theorem gm_528 : (.code yX3_birth cX3_birth 2 (some .int) : Cond) ∈ gG := gm_t (List.mem_append_right _ (List.mem_append_right _ (List.mem_append_left _ (List.mem_of_getElem? (i := 147) (rfl : tables_1_3[147]? = some _))))) rfl
theorem gm_529 : (.methodLink RX3 128 yX3_mayBirth : Cond) ∈ gG := gm_t (List.mem_append_right _ (List.mem_append_right _ (List.mem_append_left _ (List.mem_of_getElem? (i := 148) (rfl : tables_1_3[148]? = some _))))) rfl
theorem gm_530 : (.instanceMethod yX3_mayBirth : Cond) ∈ gG := gm_t (List.mem_append_right _ (List.mem_append_right _ (List.mem_append_left _ (List.mem_of_getElem? (i := 150) (rfl : tables_1_3[150]? = some _))))) rfl
theorem gm_531 : (.code yX3_mayBirth cX3_mayBirth 2 (some .boolean) : Cond) ∈ gG := gm_t (List.mem_append_right _ (List.mem_append_right _ (List.mem_append_left _ (List.mem_of_getElem? (i := 151) (rfl : tables_1_3[151]? = some _))))) rfl
theorem gm_532 : (.methodLink RX3 131 yX3_ageNone : Cond) ∈ gG := gm_t (List.mem_append_right _ (List.mem_append_right _ (List.mem_append_left _ (List.mem_of_getElem? (i := 152) (rfl : tables_1_3[152]? = some _))))) rfl
theorem gm_533 : (.instanceMethod yX3_ageNone : Cond) ∈ gG := gm_t (List.mem_append_right _ (List.mem_append_right _ (List.mem_append_left _ (List.mem_of_getElem? (i := 154) (rfl : tables_1_3[154]? = some _))))) rfl
theorem gm_534 : (.code yX3_ageNone cX3_ageNone 2 none : Cond) ∈ gG := gm_t (List.mem_append_right _ (List.mem_append_right _ (List.mem_append_left _ (List.mem_of_getElem? (i := 155) (rfl : tables_1_3[155]? = some _))))) rfl
theorem gm_535 : (.methodLink RX3 104 yX3_lends : Cond) ∈ gG := gm_t (List.mem_append_right _ (List.mem_append_right _ (List.mem_append_left _ (List.mem_of_getElem? (i := 156) (rfl : tables_1_3[156]? = some _))))) rfl
theorem gm_536 : (.instanceMethod yX3_lends : Cond) ∈ gG := gm_t (List.mem_append_right _ (List.mem_append_right _ (List.mem_append_left _ (List.mem_of_getElem? (i := 158) (rfl : tables_1_3[158]? = some _))))) rfl
theorem gm_537 : (.code yX3_lends cX3_lends 2 (some .boolean) : Cond) ∈ gG := gm_t (List.mem_append_right _ (List.mem_append_right _ (List.mem_append_left _ (List.mem_of_getElem? (i := 159) (rfl : tables_1_3[159]? = some _))))) rfl
theorem gm_538 : (.methodLink RL 47 yX3_day : Cond) ∈ gG := gm_t (List.mem_append_right _ (List.mem_append_right _ (List.mem_append_left _ (List.mem_of_getElem? (i := 160) (rfl : tables_1_3[160]? = some _))))) rfl
theorem gm_539 : (.instanceMethod yX3_day : Cond) ∈ gG := gm_t (List.mem_append_right _ (List.mem_append_right _ (List.mem_append_left _ (List.mem_of_getElem? (i := 161) (rfl : tables_1_3[161]? = some _))))) rfl
theorem gm_540 : (.selects RX3 yX3_day yX3_day : Cond) ∈ gG := gm_t (List.mem_append_right _ (List.mem_append_right _ (List.mem_append_left _ (List.mem_of_getElem? (i := 162) (rfl : tables_1_3[162]? = some _))))) rfl
theorem gm_541 : (.code yX3_day cX3_day 2 (some .int) : Cond) ∈ gG := gm_t (List.mem_append_right _ (List.mem_append_right _ (List.mem_append_left _ (List.mem_of_getElem? (i := 163) (rfl : tables_1_3[163]? = some _))))) rfl
theorem gm_542 : (.methodLink RX3 135 yX3_ageMore : Cond) ∈ gG := gm_t (List.mem_append_right _ (List.mem_append_right _ (List.mem_append_left _ (List.mem_of_getElem? (i := 164) (rfl : tables_1_3[164]? = some _))))) rfl
theorem gm_543 : (.instanceMethod yX3_ageMore : Cond) ∈ gG := gm_t (List.mem_append_right _ (List.mem_append_right _ (List.mem_append_left _ (List.mem_of_getElem? (i := 166) (rfl : tables_1_3[166]? = some _))))) rfl
theorem gm_544 : (.code yX3_ageMore cX3_ageMore 2 none : Cond) ∈ gG := gm_t (List.mem_append_right _ (List.mem_append_right _ (List.mem_append_left _ (List.mem_of_getElem? (i := 167) (rfl : tables_1_3[167]? = some _))))) rfl
theorem gm_545 : (.methodLink RL 51 yX3_then : Cond) ∈ gG := gm_t (List.mem_append_right _ (List.mem_append_right _ (List.mem_append_left _ (List.mem_of_getElem? (i := 168) (rfl : tables_1_3[168]? = some _))))) rfl
theorem gm_546 : (.instanceMethod yX3_then : Cond) ∈ gG := gm_t (List.mem_append_right _ (List.mem_append_right _ (List.mem_append_left _ (List.mem_of_getElem? (i := 169) (rfl : tables_1_3[169]? = some _))))) rfl
theorem gm_547 : (.selects RX3 yX3_then yX3_then : Cond) ∈ gG := gm_t (List.mem_append_right _ (List.mem_append_right _ (List.mem_append_left _ (List.mem_of_getElem? (i := 170) (rfl : tables_1_3[170]? = some _))))) rfl
theorem gm_548 : (.code yX3_then cX3_then 3 (some .int) : Cond) ∈ gG := gm_t (List.mem_append_right _ (List.mem_append_right _ (List.mem_append_left _ (List.mem_of_getElem? (i := 171) (rfl : tables_1_3[171]? = some _))))) rfl
theorem gm_549 : (.methodLink RX3 138 yX3_isDay : Cond) ∈ gG := gm_t (List.mem_append_right _ (List.mem_append_right _ (List.mem_append_left _ (List.mem_of_getElem? (i := 172) (rfl : tables_1_3[172]? = some _))))) rfl
theorem gm_550 : (.instanceMethod yX3_isDay : Cond) ∈ gG := gm_t (List.mem_append_right _ (List.mem_append_right _ (List.mem_append_left _ (List.mem_of_getElem? (i := 174) (rfl : tables_1_3[174]? = some _))))) rfl
theorem gm_551 : (.code yX3_isDay cX3_isDay 2 (some .boolean) : Cond) ∈ gG := gm_t (List.mem_append_right _ (List.mem_append_right _ (List.mem_append_left _ (List.mem_of_getElem? (i := 175) (rfl : tables_1_3[175]? = some _))))) rfl
theorem gm_552 : (.methodLink RL 55 yX3_goesTo : Cond) ∈ gG := gm_t (List.mem_append_right _ (List.mem_append_right _ (List.mem_append_left _ (List.mem_of_getElem? (i := 176) (rfl : tables_1_3[176]? = some _))))) rfl
theorem gm_553 : (.instanceMethod yX3_goesTo : Cond) ∈ gG := gm_t (List.mem_append_right _ (List.mem_append_right _ (List.mem_append_left _ (List.mem_of_getElem? (i := 177) (rfl : tables_1_3[177]? = some _))))) rfl
theorem gm_554 : (.selects RX3 yX3_goesTo yX3_goesTo : Cond) ∈ gG := gm_t (List.mem_append_right _ (List.mem_append_right _ (List.mem_append_left _ (List.mem_of_getElem? (i := 178) (rfl : tables_1_3[178]? = some _))))) rfl
theorem gm_555 : (.code yX3_goesTo cX3_goesTo 3 (some .int) : Cond) ∈ gG := gm_t (List.mem_append_right _ (List.mem_append_right _ (List.mem_append_left _ (List.mem_of_getElem? (i := 179) (rfl : tables_1_3[179]? = some _))))) rfl
theorem gm_556 : (.methodLink RL 59 yX3_walk : Cond) ∈ gG := gm_t (List.mem_append_right _ (List.mem_append_right _ (List.mem_append_left _ (List.mem_of_getElem? (i := 180) (rfl : tables_1_3[180]? = some _))))) rfl
theorem gm_557 : (.instanceMethod yX3_walk : Cond) ∈ gG := gm_t (List.mem_append_right _ (List.mem_append_right _ (List.mem_append_left _ (List.mem_of_getElem? (i := 181) (rfl : tables_1_3[181]? = some _))))) rfl
theorem gm_558 : (.selects RX3 yX3_walk yX3_walk : Cond) ∈ gG := gm_t (List.mem_append_right _ (List.mem_append_right _ (List.mem_append_left _ (List.mem_of_getElem? (i := 182) (rfl : tables_1_3[182]? = some _))))) rfl
theorem gm_559 : (.code yX3_walk cX3_walk 1 (some .int) : Cond) ∈ gG := gm_t (List.mem_append_right _ (List.mem_append_right _ (List.mem_append_left _ (List.mem_of_getElem? (i := 183) (rfl : tables_1_3[183]? = some _))))) rfl
theorem gm_560 : (.methodLink RX3 141 yX3_walkNow : Cond) ∈ gG := gm_t (List.mem_append_right _ (List.mem_append_right _ (List.mem_append_left _ (List.mem_of_getElem? (i := 184) (rfl : tables_1_3[184]? = some _))))) rfl
theorem gm_561 : (.instanceMethod yX3_walkNow : Cond) ∈ gG := gm_t (List.mem_append_right _ (List.mem_append_right _ (List.mem_append_left _ (List.mem_of_getElem? (i := 186) (rfl : tables_1_3[186]? = some _))))) rfl
theorem gm_562 : (.code yX3_walkNow cX3_walkNow 5 (some .int) : Cond) ∈ gG := gm_t (List.mem_append_right _ (List.mem_append_right _ (List.mem_append_left _ (List.mem_of_getElem? (i := 187) (rfl : tables_1_3[187]? = some _))))) rfl
theorem gm_563 : (.methodLink RL 63 yX3_debt : Cond) ∈ gG := gm_t (List.mem_append_right _ (List.mem_append_right _ (List.mem_append_left _ (List.mem_of_getElem? (i := 188) (rfl : tables_1_3[188]? = some _))))) rfl
theorem gm_564 : (.instanceMethod yX3_debt : Cond) ∈ gG := gm_t (List.mem_append_right _ (List.mem_append_right _ (List.mem_append_left _ (List.mem_of_getElem? (i := 189) (rfl : tables_1_3[189]? = some _))))) rfl
theorem gm_565 : (.selects RX3 yX3_debt yX3_debt : Cond) ∈ gG := gm_t (List.mem_append_right _ (List.mem_append_right _ (List.mem_append_left _ (List.mem_of_getElem? (i := 190) (rfl : tables_1_3[190]? = some _))))) rfl
theorem gm_566 : (.code yX3_debt cX3_debt 3 (some .int) : Cond) ∈ gG := gm_t (List.mem_append_right _ (List.mem_append_right _ (List.mem_append_left _ (List.mem_of_getElem? (i := 191) (rfl : tables_1_3[191]? = some _))))) rfl
theorem gm_567 : (.methodLink RL 67 yX3_pay : Cond) ∈ gG := gm_t (List.mem_append_right _ (List.mem_append_right _ (List.mem_append_left _ (List.mem_of_getElem? (i := 192) (rfl : tables_1_3[192]? = some _))))) rfl
theorem gm_568 : (.instanceMethod yX3_pay : Cond) ∈ gG := gm_t (List.mem_append_right _ (List.mem_append_right _ (List.mem_append_left _ (List.mem_of_getElem? (i := 193) (rfl : tables_1_3[193]? = some _))))) rfl
theorem gm_569 : (.selects RX3 yX3_pay yX3_pay : Cond) ∈ gG := gm_t (List.mem_append_right _ (List.mem_append_right _ (List.mem_append_left _ (List.mem_of_getElem? (i := 194) (rfl : tables_1_3[194]? = some _))))) rfl
theorem gm_570 : (.code yX3_pay cX3_pay 3 (some .int) : Cond) ∈ gG := gm_t (List.mem_append_right _ (List.mem_append_right _ (List.mem_append_left _ (List.mem_of_getElem? (i := 195) (rfl : tables_1_3[195]? = some _))))) rfl
theorem gm_571 : (.methodLink RL 71 yX3_cheap : Cond) ∈ gG := gm_t (List.mem_append_right _ (List.mem_append_right _ (List.mem_append_left _ (List.mem_of_getElem? (i := 196) (rfl : tables_1_3[196]? = some _))))) rfl
theorem gm_572 : (.instanceMethod yX3_cheap : Cond) ∈ gG := gm_t (List.mem_append_right _ (List.mem_append_right _ (List.mem_append_left _ (List.mem_of_getElem? (i := 197) (rfl : tables_1_3[197]? = some _))))) rfl
theorem gm_573 : (.selects RX3 yX3_cheap yX3_cheap : Cond) ∈ gG := gm_t (List.mem_append_right _ (List.mem_append_right _ (List.mem_append_left _ (List.mem_of_getElem? (i := 198) (rfl : tables_1_3[198]? = some _))))) rfl
theorem gm_574 : (.code yX3_cheap cX3_cheap 3 (some .int) : Cond) ∈ gG := gm_t (List.mem_append_right _ (List.mem_append_right _ (List.mem_append_left _ (List.mem_of_getElem? (i := 199) (rfl : tables_1_3[199]? = some _))))) rfl
theorem gm_575 : (.methodLink RX3 164 yX3_cheapNow : Cond) ∈ gG := gm_t (List.mem_append_right _ (List.mem_append_right _ (List.mem_append_left _ (List.mem_of_getElem? (i := 200) (rfl : tables_1_3[200]? = some _))))) rfl
theorem gm_576 : (.instanceMethod yX3_cheapNow : Cond) ∈ gG := gm_t (List.mem_append_right _ (List.mem_append_right _ (List.mem_append_left _ (List.mem_of_getElem? (i := 202) (rfl : tables_1_3[202]? = some _))))) rfl
theorem gm_577 : (.code yX3_cheapNow cX3_cheapNow 6 (some .int) : Cond) ∈ gG := gm_t (List.mem_append_right _ (List.mem_append_right _ (List.mem_append_left _ (List.mem_of_getElem? (i := 203) (rfl : tables_1_3[203]? = some _))))) rfl
theorem gm_578 : (.methodLink RX3 155 yX3_save : Cond) ∈ gG := gm_t (List.mem_append_right _ (List.mem_append_right _ (List.mem_append_left _ (List.mem_of_getElem? (i := 204) (rfl : tables_1_3[204]? = some _))))) rfl
theorem gm_579 : (.instanceMethod yX3_save : Cond) ∈ gG := gm_t (List.mem_append_right _ (List.mem_append_right _ (List.mem_append_left _ (List.mem_of_getElem? (i := 206) (rfl : tables_1_3[206]? = some _))))) rfl
theorem gm_580 : (.code yX3_save cX3_save 2 none : Cond) ∈ gG := gm_t (List.mem_append_right _ (List.mem_append_right _ (List.mem_append_left _ (List.mem_of_getElem? (i := 207) (rfl : tables_1_3[207]? = some _))))) rfl
theorem gm_581 : (.methodLink RX3 158 yX3_size : Cond) ∈ gG := gm_t (List.mem_append_right _ (List.mem_append_right _ (List.mem_append_left _ (List.mem_of_getElem? (i := 208) (rfl : tables_1_3[208]? = some _))))) rfl
theorem gm_582 : (.static yX3_size : Cond) ∈ gG := gm_t (List.mem_append_right _ (List.mem_append_right _ (List.mem_append_left _ (List.mem_of_getElem? (i := 209) (rfl : tables_1_3[209]? = some _))))) rfl
theorem gm_583 : (.code yX3_size cX3_size 3 (some .int) : Cond) ∈ gG := gm_t (List.mem_append_right _ (List.mem_append_right _ (List.mem_append_left _ (List.mem_of_getElem? (i := 210) (rfl : tables_1_3[210]? = some _))))) rfl
theorem gm_584 : (.methodLink RX3 161 yX3_numbersBy : Cond) ∈ gG := gm_t (List.mem_append_right _ (List.mem_append_right _ (List.mem_append_left _ (List.mem_of_getElem? (i := 211) (rfl : tables_1_3[211]? = some _))))) rfl
theorem gm_585 : (.instanceMethod yX3_numbersBy : Cond) ∈ gG := gm_t (List.mem_append_right _ (List.mem_append_right _ (List.mem_append_left _ (List.mem_of_getElem? (i := 213) (rfl : tables_1_3[213]? = some _))))) rfl
theorem gm_586 : (.code yX3_numbersBy cX3_numbersBy 4 (some .int) : Cond) ∈ gG := gm_t (List.mem_append_right _ (List.mem_append_right _ (List.mem_append_left _ (List.mem_of_getElem? (i := 214) (rfl : tables_1_3[214]? = some _))))) rfl
theorem gm_587 : (.methodLink RX3 144 yX3_isIn : Cond) ∈ gG := gm_t (List.mem_append_right _ (List.mem_append_right _ (List.mem_append_left _ (List.mem_of_getElem? (i := 215) (rfl : tables_1_3[215]? = some _))))) rfl
theorem gm_588 : (.static yX3_isIn : Cond) ∈ gG := gm_t (List.mem_append_right _ (List.mem_append_right _ (List.mem_append_left _ (List.mem_of_getElem? (i := 216) (rfl : tables_1_3[216]? = some _))))) rfl
theorem gm_589 : (.code yX3_isIn cX3_isIn 2 (some .boolean) : Cond) ∈ gG := gm_t (List.mem_append_right _ (List.mem_append_right _ (List.mem_append_left _ (List.mem_of_getElem? (i := 217) (rfl : tables_1_3[217]? = some _))))) rfl
theorem gm_590 : (.methodLink RX3 148 yX3_numbersAll : Cond) ∈ gG := gm_t (List.mem_append_right _ (List.mem_append_right _ (List.mem_append_left _ (List.mem_of_getElem? (i := 218) (rfl : tables_1_3[218]? = some _))))) rfl
theorem gm_591 : (.instanceMethod yX3_numbersAll : Cond) ∈ gG := gm_t (List.mem_append_right _ (List.mem_append_right _ (List.mem_append_left _ (List.mem_of_getElem? (i := 220) (rfl : tables_1_3[220]? = some _))))) rfl
theorem gm_592 : (.code yX3_numbersAll cX3_numbersAll 3 (some .int) : Cond) ∈ gG := gm_t (List.mem_append_right _ (List.mem_append_right _ (List.mem_append_left _ (List.mem_of_getElem? (i := 221) (rfl : tables_1_3[221]? = some _))))) rfl
theorem gm_593 : (.methodLink RX3 151 yX3_load : Cond) ∈ gG := gm_t (List.mem_append_right _ (List.mem_append_right _ (List.mem_append_left _ (List.mem_of_getElem? (i := 222) (rfl : tables_1_3[222]? = some _))))) rfl
theorem gm_594 : (.instanceMethod yX3_load : Cond) ∈ gG := gm_t (List.mem_append_right _ (List.mem_append_right _ (List.mem_append_left _ (List.mem_of_getElem? (i := 224) (rfl : tables_1_3[224]? = some _))))) rfl
theorem gm_595 : (.code yX3_load cX3_load 2 none : Cond) ∈ gG := gm_t (List.mem_append_right _ (List.mem_append_right _ (List.mem_append_left _ (List.mem_of_getElem? (i := 225) (rfl : tables_1_3[225]? = some _))))) rfl
theorem gm_596 : (.constant RX3 154 (268435456 : Int32) : Cond) ∈ gG := gm_t (List.mem_append_right _ (List.mem_append_right _ (List.mem_append_left _ (List.mem_of_getElem? (i := 226) (rfl : tables_1_3[226]? = some _))))) rfl
theorem gm_597 : (.methodLink RL 75 yX3_when : Cond) ∈ gG := gm_t (List.mem_append_right _ (List.mem_append_right _ (List.mem_append_left _ (List.mem_of_getElem? (i := 227) (rfl : tables_1_3[227]? = some _))))) rfl
theorem gm_598 : (.instanceMethod yX3_when : Cond) ∈ gG := gm_t (List.mem_append_right _ (List.mem_append_right _ (List.mem_append_left _ (List.mem_of_getElem? (i := 228) (rfl : tables_1_3[228]? = some _))))) rfl
theorem gm_599 : (.selects RX3 yX3_when yX3_when : Cond) ∈ gG := gm_t (List.mem_append_right _ (List.mem_append_right _ (List.mem_append_left _ (List.mem_of_getElem? (i := 229) (rfl : tables_1_3[229]? = some _))))) rfl
theorem gm_600 : (.code yX3_when cX3_when 3 (some .int) : Cond) ∈ gG := gm_t (List.mem_append_right _ (List.mem_append_right _ (List.mem_append_left _ (List.mem_of_getElem? (i := 230) (rfl : tables_1_3[230]? = some _))))) rfl
theorem gm_601 : (.methodLink RX3 167 yX3_whenNow : Cond) ∈ gG := gm_t (List.mem_append_right _ (List.mem_append_right _ (List.mem_append_left _ (List.mem_of_getElem? (i := 231) (rfl : tables_1_3[231]? = some _))))) rfl
theorem gm_602 : (.instanceMethod yX3_whenNow : Cond) ∈ gG := gm_t (List.mem_append_right _ (List.mem_append_right _ (List.mem_append_left _ (List.mem_of_getElem? (i := 233) (rfl : tables_1_3[233]? = some _))))) rfl
theorem gm_603 : (.code yX3_whenNow cX3_whenNow 4 (some .int) : Cond) ∈ gG := gm_t (List.mem_append_right _ (List.mem_append_right _ (List.mem_append_left _ (List.mem_of_getElem? (i := 234) (rfl : tables_1_3[234]? = some _))))) rfl
theorem gm_604 : (.methodLink RL 79 yX3_hear : Cond) ∈ gG := gm_t (List.mem_append_right _ (List.mem_append_right _ (List.mem_append_left _ (List.mem_of_getElem? (i := 235) (rfl : tables_1_3[235]? = some _))))) rfl
theorem gm_605 : (.instanceMethod yX3_hear : Cond) ∈ gG := gm_t (List.mem_append_right _ (List.mem_append_right _ (List.mem_append_left _ (List.mem_of_getElem? (i := 236) (rfl : tables_1_3[236]? = some _))))) rfl
theorem gm_606 : (.selects RX3 yX3_hear yX3_hear : Cond) ∈ gG := gm_t (List.mem_append_right _ (List.mem_append_right _ (List.mem_append_left _ (List.mem_of_getElem? (i := 237) (rfl : tables_1_3[237]? = some _))))) rfl
theorem gm_607 : (.code yX3_hear cX3_hear 3 (some .int) : Cond) ∈ gG := gm_t (List.mem_append_right _ (List.mem_append_right _ (List.mem_append_left _ (List.mem_of_getElem? (i := 238) (rfl : tables_1_3[238]? = some _))))) rfl
theorem gm_608 : (.methodLink RL 83 yX3_forget : Cond) ∈ gG := gm_t (List.mem_append_right _ (List.mem_append_right _ (List.mem_append_left _ (List.mem_of_getElem? (i := 239) (rfl : tables_1_3[239]? = some _))))) rfl
theorem gm_609 : (.instanceMethod yX3_forget : Cond) ∈ gG := gm_t (List.mem_append_right _ (List.mem_append_right _ (List.mem_append_right _ (List.mem_of_getElem? (i := 0) (rfl : tables_1_4[0]? = some _))))) rfl
theorem gm_610 : (.selects RX3 yX3_forget yX3_forget : Cond) ∈ gG := gm_t (List.mem_append_right _ (List.mem_append_right _ (List.mem_append_right _ (List.mem_of_getElem? (i := 1) (rfl : tables_1_4[1]? = some _))))) rfl
theorem gm_611 : (.code yX3_forget cX3_forget 2 (some .int) : Cond) ∈ gG := gm_t (List.mem_append_right _ (List.mem_append_right _ (List.mem_append_right _ (List.mem_of_getElem? (i := 2) (rfl : tables_1_4[2]? = some _))))) rfl
theorem gm_612 : (.methodLink RL 87 yX3_days : Cond) ∈ gG := gm_t (List.mem_append_right _ (List.mem_append_right _ (List.mem_append_right _ (List.mem_of_getElem? (i := 3) (rfl : tables_1_4[3]? = some _))))) rfl
theorem gm_613 : (.instanceMethod yX3_days : Cond) ∈ gG := gm_t (List.mem_append_right _ (List.mem_append_right _ (List.mem_append_right _ (List.mem_of_getElem? (i := 4) (rfl : tables_1_4[4]? = some _))))) rfl
theorem gm_614 : (.selects RX3 yX3_days yX3_days : Cond) ∈ gG := gm_t (List.mem_append_right _ (List.mem_append_right _ (List.mem_append_right _ (List.mem_of_getElem? (i := 5) (rfl : tables_1_4[5]? = some _))))) rfl
theorem gm_615 : (.code yX3_days cX3_days 2 (some .int) : Cond) ∈ gG := gm_t (List.mem_append_right _ (List.mem_append_right _ (List.mem_append_right _ (List.mem_of_getElem? (i := 6) (rfl : tables_1_4[6]? = some _))))) rfl
theorem gm_616 : (.methodLink RX3 173 yX3_daysNow : Cond) ∈ gG := gm_t (List.mem_append_right _ (List.mem_append_right _ (List.mem_append_right _ (List.mem_of_getElem? (i := 7) (rfl : tables_1_4[7]? = some _))))) rfl
theorem gm_617 : (.instanceMethod yX3_daysNow : Cond) ∈ gG := gm_t (List.mem_append_right _ (List.mem_append_right _ (List.mem_append_right _ (List.mem_of_getElem? (i := 9) (rfl : tables_1_4[9]? = some _))))) rfl
theorem gm_618 : (.code yX3_daysNow cX3_daysNow 6 (some .int) : Cond) ∈ gG := gm_t (List.mem_append_right _ (List.mem_append_right _ (List.mem_append_right _ (List.mem_of_getElem? (i := 10) (rfl : tables_1_4[10]? = some _))))) rfl
theorem gm_619 : (.methodLink RX3 170 yX3_isHeard : Cond) ∈ gG := gm_t (List.mem_append_right _ (List.mem_append_right _ (List.mem_append_right _ (List.mem_of_getElem? (i := 11) (rfl : tables_1_4[11]? = some _))))) rfl
theorem gm_620 : (.instanceMethod yX3_isHeard : Cond) ∈ gG := gm_t (List.mem_append_right _ (List.mem_append_right _ (List.mem_append_right _ (List.mem_of_getElem? (i := 13) (rfl : tables_1_4[13]? = some _))))) rfl
theorem gm_621 : (.code yX3_isHeard cX3_isHeard 4 (some .boolean) : Cond) ∈ gG := gm_t (List.mem_append_right _ (List.mem_append_right _ (List.mem_append_right _ (List.mem_of_getElem? (i := 14) (rfl : tables_1_4[14]? = some _))))) rfl
theorem gm_622 : (.methodLink RL 91 yX3_ask : Cond) ∈ gG := gm_t (List.mem_append_right _ (List.mem_append_right _ (List.mem_append_right _ (List.mem_of_getElem? (i := 15) (rfl : tables_1_4[15]? = some _))))) rfl
theorem gm_623 : (.instanceMethod yX3_ask : Cond) ∈ gG := gm_t (List.mem_append_right _ (List.mem_append_right _ (List.mem_append_right _ (List.mem_of_getElem? (i := 16) (rfl : tables_1_4[16]? = some _))))) rfl
theorem gm_624 : (.selects RX3 yX3_ask yX3_ask : Cond) ∈ gG := gm_t (List.mem_append_right _ (List.mem_append_right _ (List.mem_append_right _ (List.mem_of_getElem? (i := 17) (rfl : tables_1_4[17]? = some _))))) rfl
theorem gm_625 : (.code yX3_ask cX3_ask 1 (some .int) : Cond) ∈ gG := gm_t (List.mem_append_right _ (List.mem_append_right _ (List.mem_append_right _ (List.mem_of_getElem? (i := 18) (rfl : tables_1_4[18]? = some _))))) rfl
theorem gm_626 : (.methodLink RX3 179 yX3_askNow : Cond) ∈ gG := gm_t (List.mem_append_right _ (List.mem_append_right _ (List.mem_append_right _ (List.mem_of_getElem? (i := 19) (rfl : tables_1_4[19]? = some _))))) rfl
theorem gm_627 : (.instanceMethod yX3_askNow : Cond) ∈ gG := gm_t (List.mem_append_right _ (List.mem_append_right _ (List.mem_append_right _ (List.mem_of_getElem? (i := 21) (rfl : tables_1_4[21]? = some _))))) rfl
theorem gm_628 : (.code yX3_askNow cX3_askNow 5 (some .int) : Cond) ∈ gG := gm_t (List.mem_append_right _ (List.mem_append_right _ (List.mem_append_right _ (List.mem_of_getElem? (i := 22) (rfl : tables_1_4[22]? = some _))))) rfl
theorem gm_629 : (.methodLink RX3 176 yX3_worstOf : Cond) ∈ gG := gm_t (List.mem_append_right _ (List.mem_append_right _ (List.mem_append_right _ (List.mem_of_getElem? (i := 23) (rfl : tables_1_4[23]? = some _))))) rfl
theorem gm_630 : (.instanceMethod yX3_worstOf : Cond) ∈ gG := gm_t (List.mem_append_right _ (List.mem_append_right _ (List.mem_append_right _ (List.mem_of_getElem? (i := 25) (rfl : tables_1_4[25]? = some _))))) rfl
theorem gm_631 : (.code yX3_worstOf cX3_worstOf 6 (some .int) : Cond) ∈ gG := gm_t (List.mem_append_right _ (List.mem_append_right _ (List.mem_append_right _ (List.mem_of_getElem? (i := 26) (rfl : tables_1_4[26]? = some _))))) rfl
theorem gm_632 : (.methodLink RL 96 yX3_years : Cond) ∈ gG := gm_t (List.mem_append_right _ (List.mem_append_right _ (List.mem_append_right _ (List.mem_of_getElem? (i := 27) (rfl : tables_1_4[27]? = some _))))) rfl
theorem gm_633 : (.instanceMethod yX3_years : Cond) ∈ gG := gm_t (List.mem_append_right _ (List.mem_append_right _ (List.mem_append_right _ (List.mem_of_getElem? (i := 28) (rfl : tables_1_4[28]? = some _))))) rfl
theorem gm_634 : (.selects RX3 yX3_years yX3_years : Cond) ∈ gG := gm_t (List.mem_append_right _ (List.mem_append_right _ (List.mem_append_right _ (List.mem_of_getElem? (i := 29) (rfl : tables_1_4[29]? = some _))))) rfl
theorem gm_635 : (.code yX3_years cX3_years 4 (some .int) : Cond) ∈ gG := gm_t (List.mem_append_right _ (List.mem_append_right _ (List.mem_append_right _ (List.mem_of_getElem? (i := 30) (rfl : tables_1_4[30]? = some _))))) rfl
theorem gm_636 : (.methodLink RX3 197 yX3_yearsNow : Cond) ∈ gG := gm_t (List.mem_append_right _ (List.mem_append_right _ (List.mem_append_right _ (List.mem_of_getElem? (i := 31) (rfl : tables_1_4[31]? = some _))))) rfl
theorem gm_637 : (.instanceMethod yX3_yearsNow : Cond) ∈ gG := gm_t (List.mem_append_right _ (List.mem_append_right _ (List.mem_append_right _ (List.mem_of_getElem? (i := 33) (rfl : tables_1_4[33]? = some _))))) rfl
theorem gm_638 : (.code yX3_yearsNow cX3_yearsNow 7 (some .int) : Cond) ∈ gG := gm_t (List.mem_append_right _ (List.mem_append_right _ (List.mem_append_right _ (List.mem_of_getElem? (i := 34) (rfl : tables_1_4[34]? = some _))))) rfl
theorem gm_639 : (.methodLink RX3 194 yX3_draw : Cond) ∈ gG := gm_t (List.mem_append_right _ (List.mem_append_right _ (List.mem_append_right _ (List.mem_of_getElem? (i := 35) (rfl : tables_1_4[35]? = some _))))) rfl
theorem gm_640 : (.instanceMethod yX3_draw : Cond) ∈ gG := gm_t (List.mem_append_right _ (List.mem_append_right _ (List.mem_append_right _ (List.mem_of_getElem? (i := 37) (rfl : tables_1_4[37]? = some _))))) rfl
theorem gm_641 : (.code yX3_draw cX3_draw 2 (some .int) : Cond) ∈ gG := gm_t (List.mem_append_right _ (List.mem_append_right _ (List.mem_append_right _ (List.mem_of_getElem? (i := 38) (rfl : tables_1_4[38]? = some _))))) rfl
theorem gm_642 : (.constantLong RX3 182 (1103515245 : Int64) : Cond) ∈ gG := gm_t (List.mem_append_right _ (List.mem_append_right _ (List.mem_append_right _ (List.mem_of_getElem? (i := 39) (rfl : tables_1_4[39]? = some _))))) rfl
theorem gm_643 : (.constantLong RX3 188 (12345 : Int64) : Cond) ∈ gG := gm_t (List.mem_append_right _ (List.mem_append_right _ (List.mem_append_right _ (List.mem_of_getElem? (i := 40) (rfl : tables_1_4[40]? = some _))))) rfl
theorem gm_644 : (.constantLong RX3 190 (2147483647 : Int64) : Cond) ∈ gG := gm_t (List.mem_append_right _ (List.mem_append_right _ (List.mem_append_right _ (List.mem_of_getElem? (i := 41) (rfl : tables_1_4[41]? = some _))))) rfl
theorem gm_645 : (.constantLong RX3 192 (65536 : Int64) : Cond) ∈ gG := gm_t (List.mem_append_right _ (List.mem_append_right _ (List.mem_append_right _ (List.mem_of_getElem? (i := 42) (rfl : tables_1_4[42]? = some _))))) rfl
theorem gm_646 : (.methodLink RL 100 yX3_image : Cond) ∈ gG := gm_t (List.mem_append_right _ (List.mem_append_right _ (List.mem_append_right _ (List.mem_of_getElem? (i := 43) (rfl : tables_1_4[43]? = some _))))) rfl
theorem gm_647 : (.instanceMethod yX3_image : Cond) ∈ gG := gm_t (List.mem_append_right _ (List.mem_append_right _ (List.mem_append_right _ (List.mem_of_getElem? (i := 44) (rfl : tables_1_4[44]? = some _))))) rfl
theorem gm_648 : (.selects RX3 yX3_image yX3_image : Cond) ∈ gG := gm_t (List.mem_append_right _ (List.mem_append_right _ (List.mem_append_right _ (List.mem_of_getElem? (i := 45) (rfl : tables_1_4[45]? = some _))))) rfl
theorem gm_649 : (.code yX3_image cX3_image 2 (some .int) : Cond) ∈ gG := gm_t (List.mem_append_right _ (List.mem_append_right _ (List.mem_append_right _ (List.mem_of_getElem? (i := 46) (rfl : tables_1_4[46]? = some _))))) rfl
theorem gm_650 : (.methodLink RL 104 yX3_restore : Cond) ∈ gG := gm_t (List.mem_append_right _ (List.mem_append_right _ (List.mem_append_right _ (List.mem_of_getElem? (i := 47) (rfl : tables_1_4[47]? = some _))))) rfl
theorem gm_651 : (.instanceMethod yX3_restore : Cond) ∈ gG := gm_t (List.mem_append_right _ (List.mem_append_right _ (List.mem_append_right _ (List.mem_of_getElem? (i := 48) (rfl : tables_1_4[48]? = some _))))) rfl
theorem gm_652 : (.selects RX3 yX3_restore yX3_restore : Cond) ∈ gG := gm_t (List.mem_append_right _ (List.mem_append_right _ (List.mem_append_right _ (List.mem_of_getElem? (i := 49) (rfl : tables_1_4[49]? = some _))))) rfl
theorem gm_653 : (.code yX3_restore cX3_restore 2 (some .int) : Cond) ∈ gG := gm_t (List.mem_append_right _ (List.mem_append_right _ (List.mem_append_right _ (List.mem_of_getElem? (i := 50) (rfl : tables_1_4[50]? = some _))))) rfl
theorem gm_654 : (.methodLink RL 108 yX3_count : Cond) ∈ gG := gm_t (List.mem_append_right _ (List.mem_append_right _ (List.mem_append_right _ (List.mem_of_getElem? (i := 51) (rfl : tables_1_4[51]? = some _))))) rfl
theorem gm_655 : (.instanceMethod yX3_count : Cond) ∈ gG := gm_t (List.mem_append_right _ (List.mem_append_right _ (List.mem_append_right _ (List.mem_of_getElem? (i := 52) (rfl : tables_1_4[52]? = some _))))) rfl
theorem gm_656 : (.selects RX3 yX3_count yX3_count : Cond) ∈ gG := gm_t (List.mem_append_right _ (List.mem_append_right _ (List.mem_append_right _ (List.mem_of_getElem? (i := 53) (rfl : tables_1_4[53]? = some _))))) rfl
theorem gm_657 : (.code yX3_count cX3_count 2 (some .int) : Cond) ∈ gG := gm_t (List.mem_append_right _ (List.mem_append_right _ (List.mem_append_right _ (List.mem_of_getElem? (i := 54) (rfl : tables_1_4[54]? = some _))))) rfl
theorem gm_658 : (.methodLink RX3 226 yX3_howMany : Cond) ∈ gG := gm_t (List.mem_append_right _ (List.mem_append_right _ (List.mem_append_right _ (List.mem_of_getElem? (i := 55) (rfl : tables_1_4[55]? = some _))))) rfl
theorem gm_659 : (.instanceMethod yX3_howMany : Cond) ∈ gG := gm_t (List.mem_append_right _ (List.mem_append_right _ (List.mem_append_right _ (List.mem_of_getElem? (i := 57) (rfl : tables_1_4[57]? = some _))))) rfl
theorem gm_660 : (.code yX3_howMany cX3_howMany 2 (some .int) : Cond) ∈ gG := gm_t (List.mem_append_right _ (List.mem_append_right _ (List.mem_append_right _ (List.mem_of_getElem? (i := 58) (rfl : tables_1_4[58]? = some _))))) rfl
theorem gm_661 : (.methodLink RX3 220 yX3_unlike : Cond) ∈ gG := gm_t (List.mem_append_right _ (List.mem_append_right _ (List.mem_append_right _ (List.mem_of_getElem? (i := 59) (rfl : tables_1_4[59]? = some _))))) rfl
theorem gm_662 : (.instanceMethod yX3_unlike : Cond) ∈ gG := gm_t (List.mem_append_right _ (List.mem_append_right _ (List.mem_append_right _ (List.mem_of_getElem? (i := 61) (rfl : tables_1_4[61]? = some _))))) rfl
theorem gm_663 : (.code yX3_unlike cX3_unlike 3 (some .int) : Cond) ∈ gG := gm_t (List.mem_append_right _ (List.mem_append_right _ (List.mem_append_right _ (List.mem_of_getElem? (i := 62) (rfl : tables_1_4[62]? = some _))))) rfl
theorem gm_664 : (.methodLink RX3 223 yX3_owesAll : Cond) ∈ gG := gm_t (List.mem_append_right _ (List.mem_append_right _ (List.mem_append_right _ (List.mem_of_getElem? (i := 63) (rfl : tables_1_4[63]? = some _))))) rfl
theorem gm_665 : (.instanceMethod yX3_owesAll : Cond) ∈ gG := gm_t (List.mem_append_right _ (List.mem_append_right _ (List.mem_append_right _ (List.mem_of_getElem? (i := 65) (rfl : tables_1_4[65]? = some _))))) rfl
theorem gm_666 : (.code yX3_owesAll cX3_owesAll 3 (some .int) : Cond) ∈ gG := gm_t (List.mem_append_right _ (List.mem_append_right _ (List.mem_append_right _ (List.mem_of_getElem? (i := 66) (rfl : tables_1_4[66]? = some _))))) rfl
theorem gm_667 : (.methodLink RL 113 yX3_digest : Cond) ∈ gG := gm_t (List.mem_append_right _ (List.mem_append_right _ (List.mem_append_right _ (List.mem_of_getElem? (i := 67) (rfl : tables_1_4[67]? = some _))))) rfl
theorem gm_668 : (.instanceMethod yX3_digest : Cond) ∈ gG := gm_t (List.mem_append_right _ (List.mem_append_right _ (List.mem_append_right _ (List.mem_of_getElem? (i := 68) (rfl : tables_1_4[68]? = some _))))) rfl
theorem gm_669 : (.selects RX3 yX3_digest yX3_digest : Cond) ∈ gG := gm_t (List.mem_append_right _ (List.mem_append_right _ (List.mem_append_right _ (List.mem_of_getElem? (i := 69) (rfl : tables_1_4[69]? = some _))))) rfl
theorem gm_670 : (.code yX3_digest cX3_digest 2 (some .long) : Cond) ∈ gG := gm_t (List.mem_append_right _ (List.mem_append_right _ (List.mem_append_right _ (List.mem_of_getElem? (i := 70) (rfl : tables_1_4[70]? = some _))))) rfl
theorem gm_671 : (.constantLong RX3 238 (1033 : Int64) : Cond) ∈ gG := gm_t (List.mem_append_right _ (List.mem_append_right _ (List.mem_append_right _ (List.mem_of_getElem? (i := 71) (rfl : tables_1_4[71]? = some _))))) rfl
theorem gm_672 : (.methodLink RX3 240 yX3_mixHouse : Cond) ∈ gG := gm_t (List.mem_append_right _ (List.mem_append_right _ (List.mem_append_right _ (List.mem_of_getElem? (i := 72) (rfl : tables_1_4[72]? = some _))))) rfl
theorem gm_673 : (.instanceMethod yX3_mixHouse : Cond) ∈ gG := gm_t (List.mem_append_right _ (List.mem_append_right _ (List.mem_append_right _ (List.mem_of_getElem? (i := 74) (rfl : tables_1_4[74]? = some _))))) rfl
theorem gm_674 : (.code yX3_mixHouse cX3_mixHouse 3 none : Cond) ∈ gG := gm_t (List.mem_append_right _ (List.mem_append_right _ (List.mem_append_right _ (List.mem_of_getElem? (i := 75) (rfl : tables_1_4[75]? = some _))))) rfl
theorem gm_675 : (.methodLink RX3 234 yX3_mix : Cond) ∈ gG := gm_t (List.mem_append_right _ (List.mem_append_right _ (List.mem_append_right _ (List.mem_of_getElem? (i := 76) (rfl : tables_1_4[76]? = some _))))) rfl
theorem gm_676 : (.instanceMethod yX3_mix : Cond) ∈ gG := gm_t (List.mem_append_right _ (List.mem_append_right _ (List.mem_append_right _ (List.mem_of_getElem? (i := 78) (rfl : tables_1_4[78]? = some _))))) rfl
theorem gm_677 : (.code yX3_mix cX3_mix 3 none : Cond) ∈ gG := gm_t (List.mem_append_right _ (List.mem_append_right _ (List.mem_append_right _ (List.mem_of_getElem? (i := 79) (rfl : tables_1_4[79]? = some _))))) rfl
theorem gm_678 : (.constantLong RX3 229 (31 : Int64) : Cond) ∈ gG := gm_t (List.mem_append_right _ (List.mem_append_right _ (List.mem_append_right _ (List.mem_of_getElem? (i := 80) (rfl : tables_1_4[80]? = some _))))) rfl
theorem gm_679 : (.fieldLink RJ0 9 "java/lang/String" "value" "[B" : Cond) ∈ gG := gm_t (List.mem_append_right _ (List.mem_append_right _ (List.mem_append_right _ (List.mem_of_getElem? (i := 81) (rfl : tables_1_4[81]? = some _))))) rfl
theorem gm_680 : (.fieldLink RJ0 15 "java/lang/String" "coder" "B" : Cond) ∈ gG := gm_t (List.mem_append_right _ (List.mem_append_right _ (List.mem_append_right _ (List.mem_of_getElem? (i := 82) (rfl : tables_1_4[82]? = some _))))) rfl
theorem gm_681 : (.selects RX2 yX2_housesOnPage yX2_housesOnPage : Cond) ∈ gG := gm_s (List.mem_of_getElem? (i := 0) (rfl : (k2_sels lw_privs)[0]? = some _)) rfl
theorem gm_682 : (.selects RX2 yX2_isHouse yX2_isHouse : Cond) ∈ gG := gm_s (List.mem_of_getElem? (i := 1) (rfl : (k2_sels lw_privs)[1]? = some _)) rfl
theorem gm_683 : (.selects RX2 yX2_numberNow yX2_numberNow : Cond) ∈ gG := gm_s (List.mem_of_getElem? (i := 2) (rfl : (k2_sels lw_privs)[2]? = some _)) rfl
theorem gm_684 : (.selects RX2 yX2_numberAt yX2_numberAt : Cond) ∈ gG := gm_s (List.mem_of_getElem? (i := 3) (rfl : (k2_sels lw_privs)[3]? = some _)) rfl
theorem gm_685 : (.selects RX2 yX2_owedBy yX2_owedBy : Cond) ∈ gG := gm_s (List.mem_of_getElem? (i := 4) (rfl : (k2_sels lw_privs)[4]? = some _)) rfl
theorem gm_686 : (.selects RX2 yX2_houseWith yX2_houseWith : Cond) ∈ gG := gm_s (List.mem_of_getElem? (i := 5) (rfl : (k2_sels lw_privs)[5]? = some _)) rfl
theorem gm_687 : (.selects RX2 yX2_numberOn yX2_numberOn : Cond) ∈ gG := gm_s (List.mem_of_getElem? (i := 6) (rfl : (k2_sels lw_privs)[6]? = some _)) rfl
theorem gm_688 : (.selects RX2 yX2_turnInWalk yX2_turnInWalk : Cond) ∈ gG := gm_s (List.mem_of_getElem? (i := 7) (rfl : (k2_sels lw_privs)[7]? = some _)) rfl
theorem gm_689 : (.selects RX2 yX2_bear yX2_bear : Cond) ∈ gG := gm_s (List.mem_of_getElem? (i := 8) (rfl : (k2_sels lw_privs)[8]? = some _)) rfl
theorem gm_690 : (.selects RX2 yX2_lendsACradle yX2_lendsACradle : Cond) ∈ gG := gm_s (List.mem_of_getElem? (i := 9) (rfl : (k2_sels lw_privs)[9]? = some _)) rfl
theorem gm_691 : (.selects RX2 yX2_growOlder yX2_growOlder : Cond) ∈ gG := gm_s (List.mem_of_getElem? (i := 10) (rfl : (k2_sels lw_privs)[10]? = some _)) rfl
theorem gm_692 : (.selects RX2 yX2_isDay yX2_isDay : Cond) ∈ gG := gm_s (List.mem_of_getElem? (i := 11) (rfl : (k2_sels lw_privs)[11]? = some _)) rfl
theorem gm_693 : (.selects RX2 yX2_lengthOfWalk yX2_lengthOfWalk : Cond) ∈ gG := gm_s (List.mem_of_getElem? (i := 12) (rfl : (k2_sels lw_privs)[12]? = some _)) rfl
theorem gm_694 : (.selects RX2 yX2_houseOfTurn yX2_houseOfTurn : Cond) ∈ gG := gm_s (List.mem_of_getElem? (i := 13) (rfl : (k2_sels lw_privs)[13]? = some _)) rfl
theorem gm_695 : (.selects RX2 yX2_cheapestSet yX2_cheapestSet : Cond) ∈ gG := gm_s (List.mem_of_getElem? (i := 14) (rfl : (k2_sels lw_privs)[14]? = some _)) rfl
theorem gm_696 : (.selects RX2 yX2_mayAllBear yX2_mayAllBear : Cond) ∈ gG := gm_s (List.mem_of_getElem? (i := 15) (rfl : (k2_sels lw_privs)[15]? = some _)) rfl
theorem gm_697 : (.selects RX2 yX2_numbersBy yX2_numbersBy : Cond) ∈ gG := gm_s (List.mem_of_getElem? (i := 16) (rfl : (k2_sels lw_privs)[16]? = some _)) rfl
theorem gm_698 : (.selects RX2 yX2_allNumbers yX2_allNumbers : Cond) ∈ gG := gm_s (List.mem_of_getElem? (i := 17) (rfl : (k2_sels lw_privs)[17]? = some _)) rfl
theorem gm_699 : (.selects RX2 yX2_canHaveBeen yX2_canHaveBeen : Cond) ∈ gG := gm_s (List.mem_of_getElem? (i := 18) (rfl : (k2_sels lw_privs)[18]? = some _)) rfl
theorem gm_700 : (.selects RX2 yX2_markPossibleDays yX2_markPossibleDays : Cond) ∈ gG := gm_s (List.mem_of_getElem? (i := 19) (rfl : (k2_sels lw_privs)[19]? = some _)) rfl
theorem gm_701 : (.selects RX2 yX2_mostLeftBy yX2_mostLeftBy : Cond) ∈ gG := gm_s (List.mem_of_getElem? (i := 20) (rfl : (k2_sels lw_privs)[20]? = some _)) rfl
theorem gm_702 : (.selects RX2 yX2_drawnHouse yX2_drawnHouse : Cond) ∈ gG := gm_s (List.mem_of_getElem? (i := 21) (rfl : (k2_sels lw_privs)[21]? = some _)) rfl
theorem gm_703 : (.selects RX2 yX2_bearIfMayBe yX2_bearIfMayBe : Cond) ∈ gG := gm_s (List.mem_of_getElem? (i := 22) (rfl : (k2_sels lw_privs)[22]? = some _)) rfl
theorem gm_704 : (.selects RX2 yX2_unlikeNumbers yX2_unlikeNumbers : Cond) ∈ gG := gm_s (List.mem_of_getElem? (i := 23) (rfl : (k2_sels lw_privs)[23]? = some _)) rfl
theorem gm_705 : (.selects RX2 yX2_owedByAll yX2_owedByAll : Cond) ∈ gG := gm_s (List.mem_of_getElem? (i := 24) (rfl : (k2_sels lw_privs)[24]? = some _)) rfl
theorem gm_706 : (.selects RX2 yX2_withHouse yX2_withHouse : Cond) ∈ gG := gm_s (List.mem_of_getElem? (i := 25) (rfl : (k2_sels lw_privs)[25]? = some _)) rfl
theorem gm_707 : (.selects RX3 yX3_faultNow yX3_faultNow : Cond) ∈ gG := gm_s (List.mem_of_getElem? (i := 26) (rfl : (k2_sels lw_privs)[26]? = some _)) rfl
theorem gm_708 : (.selects RX3 yX3_isGood yX3_isGood : Cond) ∈ gG := gm_s (List.mem_of_getElem? (i := 27) (rfl : (k2_sels lw_privs)[27]? = some _)) rfl
theorem gm_709 : (.selects RX3 yX3_isHouse yX3_isHouse : Cond) ∈ gG := gm_s (List.mem_of_getElem? (i := 28) (rfl : (k2_sels lw_privs)[28]? = some _)) rfl
theorem gm_710 : (.selects RX3 yX3_houseNow yX3_houseNow : Cond) ∈ gG := gm_s (List.mem_of_getElem? (i := 29) (rfl : (k2_sels lw_privs)[29]? = some _)) rfl
theorem gm_711 : (.selects RX3 yX3_number yX3_number : Cond) ∈ gG := gm_s (List.mem_of_getElem? (i := 30) (rfl : (k2_sels lw_privs)[30]? = some _)) rfl
theorem gm_712 : (.selects RX3 yX3_numberBy yX3_numberBy : Cond) ∈ gG := gm_s (List.mem_of_getElem? (i := 31) (rfl : (k2_sels lw_privs)[31]? = some _)) rfl
theorem gm_713 : (.selects RX3 yX3_owes yX3_owes : Cond) ∈ gG := gm_s (List.mem_of_getElem? (i := 32) (rfl : (k2_sels lw_privs)[32]? = some _)) rfl
theorem gm_714 : (.selects RX3 yX3_houseOf yX3_houseOf : Cond) ∈ gG := gm_s (List.mem_of_getElem? (i := 33) (rfl : (k2_sels lw_privs)[33]? = some _)) rfl
theorem gm_715 : (.selects RX3 yX3_numberOn yX3_numberOn : Cond) ∈ gG := gm_s (List.mem_of_getElem? (i := 34) (rfl : (k2_sels lw_privs)[34]? = some _)) rfl
theorem gm_716 : (.selects RX3 yX3_orderOf yX3_orderOf : Cond) ∈ gG := gm_s (List.mem_of_getElem? (i := 35) (rfl : (k2_sels lw_privs)[35]? = some _)) rfl
theorem gm_717 : (.selects RX3 yX3_mayBirth yX3_mayBirth : Cond) ∈ gG := gm_s (List.mem_of_getElem? (i := 36) (rfl : (k2_sels lw_privs)[36]? = some _)) rfl
theorem gm_718 : (.selects RX3 yX3_ageNone yX3_ageNone : Cond) ∈ gG := gm_s (List.mem_of_getElem? (i := 37) (rfl : (k2_sels lw_privs)[37]? = some _)) rfl
theorem gm_719 : (.selects RX3 yX3_lends yX3_lends : Cond) ∈ gG := gm_s (List.mem_of_getElem? (i := 38) (rfl : (k2_sels lw_privs)[38]? = some _)) rfl
theorem gm_720 : (.selects RX3 yX3_ageMore yX3_ageMore : Cond) ∈ gG := gm_s (List.mem_of_getElem? (i := 39) (rfl : (k2_sels lw_privs)[39]? = some _)) rfl
theorem gm_721 : (.selects RX3 yX3_isDay yX3_isDay : Cond) ∈ gG := gm_s (List.mem_of_getElem? (i := 40) (rfl : (k2_sels lw_privs)[40]? = some _)) rfl
theorem gm_722 : (.selects RX3 yX3_walkNow yX3_walkNow : Cond) ∈ gG := gm_s (List.mem_of_getElem? (i := 41) (rfl : (k2_sels lw_privs)[41]? = some _)) rfl
theorem gm_723 : (.selects RX3 yX3_cheapNow yX3_cheapNow : Cond) ∈ gG := gm_s (List.mem_of_getElem? (i := 42) (rfl : (k2_sels lw_privs)[42]? = some _)) rfl
theorem gm_724 : (.selects RX3 yX3_save yX3_save : Cond) ∈ gG := gm_s (List.mem_of_getElem? (i := 43) (rfl : (k2_sels lw_privs)[43]? = some _)) rfl
theorem gm_725 : (.selects RX3 yX3_numbersBy yX3_numbersBy : Cond) ∈ gG := gm_s (List.mem_of_getElem? (i := 44) (rfl : (k2_sels lw_privs)[44]? = some _)) rfl
theorem gm_726 : (.selects RX3 yX3_numbersAll yX3_numbersAll : Cond) ∈ gG := gm_s (List.mem_of_getElem? (i := 45) (rfl : (k2_sels lw_privs)[45]? = some _)) rfl
theorem gm_727 : (.selects RX3 yX3_load yX3_load : Cond) ∈ gG := gm_s (List.mem_of_getElem? (i := 46) (rfl : (k2_sels lw_privs)[46]? = some _)) rfl
theorem gm_728 : (.selects RX3 yX3_whenNow yX3_whenNow : Cond) ∈ gG := gm_s (List.mem_of_getElem? (i := 47) (rfl : (k2_sels lw_privs)[47]? = some _)) rfl
theorem gm_729 : (.selects RX3 yX3_daysNow yX3_daysNow : Cond) ∈ gG := gm_s (List.mem_of_getElem? (i := 48) (rfl : (k2_sels lw_privs)[48]? = some _)) rfl
theorem gm_730 : (.selects RX3 yX3_isHeard yX3_isHeard : Cond) ∈ gG := gm_s (List.mem_of_getElem? (i := 49) (rfl : (k2_sels lw_privs)[49]? = some _)) rfl
theorem gm_731 : (.selects RX3 yX3_askNow yX3_askNow : Cond) ∈ gG := gm_s (List.mem_of_getElem? (i := 50) (rfl : (k2_sels lw_privs)[50]? = some _)) rfl
theorem gm_732 : (.selects RX3 yX3_worstOf yX3_worstOf : Cond) ∈ gG := gm_s (List.mem_of_getElem? (i := 51) (rfl : (k2_sels lw_privs)[51]? = some _)) rfl
theorem gm_733 : (.selects RX3 yX3_yearsNow yX3_yearsNow : Cond) ∈ gG := gm_s (List.mem_of_getElem? (i := 52) (rfl : (k2_sels lw_privs)[52]? = some _)) rfl
theorem gm_734 : (.selects RX3 yX3_draw yX3_draw : Cond) ∈ gG := gm_s (List.mem_of_getElem? (i := 53) (rfl : (k2_sels lw_privs)[53]? = some _)) rfl
theorem gm_735 : (.selects RX3 yX3_howMany yX3_howMany : Cond) ∈ gG := gm_s (List.mem_of_getElem? (i := 54) (rfl : (k2_sels lw_privs)[54]? = some _)) rfl
theorem gm_736 : (.selects RX3 yX3_unlike yX3_unlike : Cond) ∈ gG := gm_s (List.mem_of_getElem? (i := 55) (rfl : (k2_sels lw_privs)[55]? = some _)) rfl
theorem gm_737 : (.selects RX3 yX3_owesAll yX3_owesAll : Cond) ∈ gG := gm_s (List.mem_of_getElem? (i := 56) (rfl : (k2_sels lw_privs)[56]? = some _)) rfl
theorem gm_738 : (.selects RX3 yX3_mixHouse yX3_mixHouse : Cond) ∈ gG := gm_s (List.mem_of_getElem? (i := 57) (rfl : (k2_sels lw_privs)[57]? = some _)) rfl
theorem gm_739 : (.selects RX3 yX3_mix yX3_mix : Cond) ∈ gG := gm_s (List.mem_of_getElem? (i := 58) (rfl : (k2_sels lw_privs)[58]? = some _)) rfl
theorem us_X0 : ∀ w ∈ u_ws RX0 TX0 11, w ∈ gG := by
  intro w hw
  obtain ⟨k, hk, rfl⟩ := List.mem_map.mp hw
  have hk := List.mem_range.mp hk
  match k, hk with
  | 0, _ => exact gm_59
  | 1, _ => exact gm_60
  | 2, _ => exact gm_61
  | 3, _ => exact gm_62
  | 4, _ => exact gm_63
  | 5, _ => exact gm_64
  | 6, _ => exact gm_65
  | 7, _ => exact gm_66
  | 8, _ => exact gm_67
  | 9, _ => exact gm_68
  | 10, _ => exact gm_69
  | k + 11, h => exact absurd h (by omega)
theorem us_X1 : ∀ w ∈ u_ws RX1 TX1 1, w ∈ gG := by
  intro w hw
  obtain ⟨k, hk, rfl⟩ := List.mem_map.mp hw
  have hk := List.mem_range.mp hk
  match k, hk with
  | 0, _ => exact gm_27
  | k + 1, h => exact absurd h (by omega)
theorem us_X2 : ∀ w ∈ u_ws RX2 TX2 11, w ∈ gG := by
  intro w hw
  obtain ⟨k, hk, rfl⟩ := List.mem_map.mp hw
  have hk := List.mem_range.mp hk
  match k, hk with
  | 0, _ => exact gm_81
  | 1, _ => exact gm_82
  | 2, _ => exact gm_83
  | 3, _ => exact gm_84
  | 4, _ => exact gm_85
  | 5, _ => exact gm_86
  | 6, _ => exact gm_87
  | 7, _ => exact gm_88
  | 8, _ => exact gm_89
  | 9, _ => exact gm_90
  | 10, _ => exact gm_91
  | k + 11, h => exact absurd h (by omega)
theorem us_X3 : ∀ w ∈ u_ws RX3 TX3 32, w ∈ gG := by
  intro w hw
  obtain ⟨k, hk, rfl⟩ := List.mem_map.mp hw
  have hk := List.mem_range.mp hk
  match k, hk with
  | 0, _ => exact gm_433
  | 1, _ => exact gm_434
  | 2, _ => exact gm_435
  | 3, _ => exact gm_436
  | 4, _ => exact gm_437
  | 5, _ => exact gm_438
  | 6, _ => exact gm_439
  | 7, _ => exact gm_440
  | 8, _ => exact gm_441
  | 9, _ => exact gm_442
  | 10, _ => exact gm_443
  | 11, _ => exact gm_444
  | 12, _ => exact gm_445
  | 13, _ => exact gm_446
  | 14, _ => exact gm_447
  | 15, _ => exact gm_448
  | 16, _ => exact gm_449
  | 17, _ => exact gm_450
  | 18, _ => exact gm_451
  | 19, _ => exact gm_452
  | 20, _ => exact gm_453
  | 21, _ => exact gm_454
  | 22, _ => exact gm_455
  | 23, _ => exact gm_456
  | 24, _ => exact gm_457
  | 25, _ => exact gm_458
  | 26, _ => exact gm_459
  | 27, _ => exact gm_460
  | 28, _ => exact gm_461
  | 29, _ => exact gm_462
  | 30, _ => exact gm_463
  | 31, _ => exact gm_464
  | k + 32, h => exact absurd h (by omega)
