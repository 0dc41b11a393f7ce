def XW (cI : ClassId) (a : Nat → Nat) (pl n st : Nat) (ik : Int32) (td nd nh : Nat) (bs : Int32) (ktd knd knh : Nat) (kbs : Int32) (pg kd ag pa bo dm dn hh hn kag kpa kbo kdm kdn khh khn wb ps ty : Nat → Int32) : va_W := [(a 0, .inr (2, [.ref (a 1), .int (nI pl), .int (nI n), .int (nI st), .ref (a 3), .ref (a 5), .ref (a 20), .int ik, .ref (a 35), .ref (a 37), .ref (a 39)])),
  (a 1, .inr (1, [.ref (a 2)])),
  (a 2, .inl (cI, 19, .inl pg)),
  (a 3, .inr (1, [.ref (a 4)])),
  (a 4, .inl (cI, 6, .inl kd)),
  (a 5, .inr (0, [.int (nI td), .int bs, .int (nI nd), .int (nI nh), .ref (a 6), .ref (a 7), .ref (a 8), .ref (a 9), .ref (a 10), .ref (a 11), .ref (a 12)])),
  (a 6, .inr (1, [.ref (a 13)])),
  (a 7, .inr (1, [.ref (a 14)])),
  (a 8, .inr (1, [.ref (a 15)])),
  (a 9, .inr (1, [.ref (a 16)])),
  (a 10, .inr (1, [.ref (a 17)])),
  (a 11, .inr (1, [.ref (a 18)])),
  (a 12, .inr (1, [.ref (a 19)])),
  (a 13, .inl (cI, 6, .inl ag)),
  (a 14, .inl (cI, 180, .inl pa)),
  (a 15, .inl (cI, 6, .inl bo)),
  (a 16, .inl (cI, 6, .inl dm)),
  (a 17, .inl (cI, 6, .inl dn)),
  (a 18, .inl (cI, 6, .inl hh)),
  (a 19, .inl (cI, 6, .inl hn)),
  (a 20, .inr (0, [.int (nI ktd), .int kbs, .int (nI knd), .int (nI knh), .ref (a 21), .ref (a 22), .ref (a 23), .ref (a 24), .ref (a 25), .ref (a 26), .ref (a 27)])),
  (a 21, .inr (1, [.ref (a 28)])),
  (a 22, .inr (1, [.ref (a 29)])),
  (a 23, .inr (1, [.ref (a 30)])),
  (a 24, .inr (1, [.ref (a 31)])),
  (a 25, .inr (1, [.ref (a 32)])),
  (a 26, .inr (1, [.ref (a 33)])),
  (a 27, .inr (1, [.ref (a 34)])),
  (a 28, .inl (cI, 6, .inl kag)),
  (a 29, .inl (cI, 180, .inl kpa)),
  (a 30, .inl (cI, 6, .inl kbo)),
  (a 31, .inl (cI, 6, .inl kdm)),
  (a 32, .inl (cI, 6, .inl kdn)),
  (a 33, .inl (cI, 6, .inl khh)),
  (a 34, .inl (cI, 6, .inl khn)),
  (a 35, .inr (1, [.ref (a 36)])),
  (a 36, .inl (cI, 6, .inl wb)),
  (a 37, .inr (1, [.ref (a 38)])),
  (a 38, .inl (cI, 31, .inl ps)),
  (a 39, .inr (1, [.ref (a 40)])),
  (a 40, .inl (cI, 40, .inl ty))]
theorem nl_112 {D : va_G} {cI cB : ClassId} {aS : Nat} {s : State} {args : Array Value} (hK : KP D cI cB aS s) : (Cond.fieldLinkNest RX2 112 "BirthStreet$Moment" "today" "I" RX2).before args s = true := va_Nw.use rfl (hK.2.1 (RX2, 112, "BirthStreet$Moment", "today", "I", RX2) (List.mem_of_getElem? (i := 0) rfl))
theorem nl_103 {D : va_G} {cI cB : ClassId} {aS : Nat} {s : State} {args : Array Value} (hK : KP D cI cB aS s) : (Cond.fieldLinkNest RX2 103 "BirthStreet$Moment" "births" "I" RX2).before args s = true := va_Nw.use rfl (hK.2.1 (RX2, 103, "BirthStreet$Moment", "births", "I", RX2) (List.mem_of_getElem? (i := 1) rfl))
theorem nl_139 {D : va_G} {cI cB : ClassId} {aS : Nat} {s : State} {args : Array Value} (hK : KP D cI cB aS s) : (Cond.fieldLinkNest RX2 139 "BirthStreet$Moment" "debts" "I" RX2).before args s = true := va_Nw.use rfl (hK.2.1 (RX2, 139, "BirthStreet$Moment", "debts", "I", RX2) (List.mem_of_getElem? (i := 2) rfl))
theorem nl_162 {D : va_G} {cI cB : ClassId} {aS : Nat} {s : State} {args : Array Value} (hK : KP D cI cB aS s) : (Cond.fieldLinkNest RX2 162 "BirthStreet$Moment" "heard" "I" RX2).before args s = true := va_Nw.use rfl (hK.2.1 (RX2, 162, "BirthStreet$Moment", "heard", "I", RX2) (List.mem_of_getElem? (i := 3) rfl))
theorem nl_76 {D : va_G} {cI cB : ClassId} {aS : Nat} {s : State} {args : Array Value} (hK : KP D cI cB aS s) : (Cond.fieldLinkNest RX2 76 "BirthStreet$Moment" "ages" "LBirthStreet$Row;" RX2).before args s = true := va_Nw.use rfl (hK.2.1 (RX2, 76, "BirthStreet$Moment", "ages", "LBirthStreet$Row;", RX2) (List.mem_of_getElem? (i := 4) rfl))
theorem nl_115 {D : va_G} {cI cB : ClassId} {aS : Nat} {s : State} {args : Array Value} (hK : KP D cI cB aS s) : (Cond.fieldLinkNest RX2 115 "BirthStreet$Moment" "pastAges" "LBirthStreet$Row;" RX2).before args s = true := va_Nw.use rfl (hK.2.1 (RX2, 115, "BirthStreet$Moment", "pastAges", "LBirthStreet$Row;", RX2) (List.mem_of_getElem? (i := 5) rfl))
theorem nl_86 {D : va_G} {cI cB : ClassId} {aS : Nat} {s : State} {args : Array Value} (hK : KP D cI cB aS s) : (Cond.fieldLinkNest RX2 86 "BirthStreet$Moment" "birthsIn" "LBirthStreet$Row;" RX2).before args s = true := va_Nw.use rfl (hK.2.1 (RX2, 86, "BirthStreet$Moment", "birthsIn", "LBirthStreet$Row;", RX2) (List.mem_of_getElem? (i := 6) rfl))
theorem nl_142 {D : va_G} {cI cB : ClassId} {aS : Nat} {s : State} {args : Array Value} (hK : KP D cI cB aS s) : (Cond.fieldLinkNest RX2 142 "BirthStreet$Moment" "debtAmounts" "LBirthStreet$Row;" RX2).before args s = true := va_Nw.use rfl (hK.2.1 (RX2, 142, "BirthStreet$Moment", "debtAmounts", "LBirthStreet$Row;", RX2) (List.mem_of_getElem? (i := 7) rfl))
theorem nl_145 {D : va_G} {cI cB : ClassId} {aS : Nat} {s : State} {args : Array Value} (hK : KP D cI cB aS s) : (Cond.fieldLinkNest RX2 145 "BirthStreet$Moment" "debtNumbers" "LBirthStreet$Row;" RX2).before args s = true := va_Nw.use rfl (hK.2.1 (RX2, 145, "BirthStreet$Moment", "debtNumbers", "LBirthStreet$Row;", RX2) (List.mem_of_getElem? (i := 8) rfl))
def XA (a : Nat → Nat) : List Nat := [a 0, a 1, a 2, a 3, a 4, a 5, a 6, a 7, a 8, a 9, a 10, a 11, a 12, a 13, a 14, a 15, a 16, a 17, a 18, a 19, a 20, a 21, a 22, a 23, a 24, a 25, a 26, a 27, a 28, a 29, a 30, a 31, a 32, a 33, a 34, a 35, a 36, a 37, a 38, a 39, a 40]
theorem XW_addr {cI : ClassId} {a : Nat → Nat} {pl n st : Nat} {ik : Int32} {td nd nh : Nat} {bs : Int32} {ktd knd knh : Nat} {kbs : Int32} {pg kd ag pa bo dm dn hh hn kag kpa kbo kdm kdn khh khn wb ps ty : Nat → Int32} : (XW cI a pl n st ik td nd nh bs ktd knd knh kbs pg kd ag pa bo dm dn hh hn kag kpa kbo kdm kdn khh khn wb ps ty).map (fun q => q.1) = XA a := rfl
theorem XW_g0 {cI : ClassId} {a : Nat → Nat} {pl n st : Nat} {ik : Int32} {td nd nh : Nat} {bs : Int32} {ktd knd knh : Nat} {kbs : Int32} {pg kd ag pa bo dm dn hh hn kag kpa kbo kdm kdn khh khn wb ps ty : Nat → Int32} : (XW cI a pl n st ik td nd nh bs ktd knd knh kbs pg kd ag pa bo dm dn hh hn kag kpa kbo kdm kdn khh khn wb ps ty)[0]? = some (a 0, .inr (2, [.ref (a 1), .int (nI pl), .int (nI n), .int (nI st), .ref (a 3), .ref (a 5), .ref (a 20), .int ik, .ref (a 35), .ref (a 37), .ref (a 39)])) := rfl
theorem XW_g1 {cI : ClassId} {a : Nat → Nat} {pl n st : Nat} {ik : Int32} {td nd nh : Nat} {bs : Int32} {ktd knd knh : Nat} {kbs : Int32} {pg kd ag pa bo dm dn hh hn kag kpa kbo kdm kdn khh khn wb ps ty : Nat → Int32} : (XW cI a pl n st ik td nd nh bs ktd knd knh kbs pg kd ag pa bo dm dn hh hn kag kpa kbo kdm kdn khh khn wb ps ty)[1]? = some (a 1, .inr (1, [.ref (a 2)])) := rfl
theorem XW_g2 {cI : ClassId} {a : Nat → Nat} {pl n st : Nat} {ik : Int32} {td nd nh : Nat} {bs : Int32} {ktd knd knh : Nat} {kbs : Int32} {pg kd ag pa bo dm dn hh hn kag kpa kbo kdm kdn khh khn wb ps ty : Nat → Int32} : (XW cI a pl n st ik td nd nh bs ktd knd knh kbs pg kd ag pa bo dm dn hh hn kag kpa kbo kdm kdn khh khn wb ps ty)[2]? = some (a 2, .inl (cI, 19, .inl pg)) := rfl
theorem XW_g3 {cI : ClassId} {a : Nat → Nat} {pl n st : Nat} {ik : Int32} {td nd nh : Nat} {bs : Int32} {ktd knd knh : Nat} {kbs : Int32} {pg kd ag pa bo dm dn hh hn kag kpa kbo kdm kdn khh khn wb ps ty : Nat → Int32} : (XW cI a pl n st ik td nd nh bs ktd knd knh kbs pg kd ag pa bo dm dn hh hn kag kpa kbo kdm kdn khh khn wb ps ty)[3]? = some (a 3, .inr (1, [.ref (a 4)])) := rfl
theorem XW_g4 {cI : ClassId} {a : Nat → Nat} {pl n st : Nat} {ik : Int32} {td nd nh : Nat} {bs : Int32} {ktd knd knh : Nat} {kbs : Int32} {pg kd ag pa bo dm dn hh hn kag kpa kbo kdm kdn khh khn wb ps ty : Nat → Int32} : (XW cI a pl n st ik td nd nh bs ktd knd knh kbs pg kd ag pa bo dm dn hh hn kag kpa kbo kdm kdn khh khn wb ps ty)[4]? = some (a 4, .inl (cI, 6, .inl kd)) := rfl
theorem XW_g5 {cI : ClassId} {a : Nat → Nat} {pl n st : Nat} {ik : Int32} {td nd nh : Nat} {bs : Int32} {ktd knd knh : Nat} {kbs : Int32} {pg kd ag pa bo dm dn hh hn kag kpa kbo kdm kdn khh khn wb ps ty : Nat → Int32} : (XW cI a pl n st ik td nd nh bs ktd knd knh kbs pg kd ag pa bo dm dn hh hn kag kpa kbo kdm kdn khh khn wb ps ty)[5]? = some (a 5, .inr (0, [.int (nI td), .int bs, .int (nI nd), .int (nI nh), .ref (a 6), .ref (a 7), .ref (a 8), .ref (a 9), .ref (a 10), .ref (a 11), .ref (a 12)])) := rfl
theorem XW_g6 {cI : ClassId} {a : Nat → Nat} {pl n st : Nat} {ik : Int32} {td nd nh : Nat} {bs : Int32} {ktd knd knh : Nat} {kbs : Int32} {pg kd ag pa bo dm dn hh hn kag kpa kbo kdm kdn khh khn wb ps ty : Nat → Int32} : (XW cI a pl n st ik td nd nh bs ktd knd knh kbs pg kd ag pa bo dm dn hh hn kag kpa kbo kdm kdn khh khn wb ps ty)[6]? = some (a 6, .inr (1, [.ref (a 13)])) := rfl
theorem XW_g7 {cI : ClassId} {a : Nat → Nat} {pl n st : Nat} {ik : Int32} {td nd nh : Nat} {bs : Int32} {ktd knd knh : Nat} {kbs : Int32} {pg kd ag pa bo dm dn hh hn kag kpa kbo kdm kdn khh khn wb ps ty : Nat → Int32} : (XW cI a pl n st ik td nd nh bs ktd knd knh kbs pg kd ag pa bo dm dn hh hn kag kpa kbo kdm kdn khh khn wb ps ty)[7]? = some (a 7, .inr (1, [.ref (a 14)])) := rfl
theorem XW_g8 {cI : ClassId} {a : Nat → Nat} {pl n st : Nat} {ik : Int32} {td nd nh : Nat} {bs : Int32} {ktd knd knh : Nat} {kbs : Int32} {pg kd ag pa bo dm dn hh hn kag kpa kbo kdm kdn khh khn wb ps ty : Nat → Int32} : (XW cI a pl n st ik td nd nh bs ktd knd knh kbs pg kd ag pa bo dm dn hh hn kag kpa kbo kdm kdn khh khn wb ps ty)[8]? = some (a 8, .inr (1, [.ref (a 15)])) := rfl
theorem XW_g9 {cI : ClassId} {a : Nat → Nat} {pl n st : Nat} {ik : Int32} {td nd nh : Nat} {bs : Int32} {ktd knd knh : Nat} {kbs : Int32} {pg kd ag pa bo dm dn hh hn kag kpa kbo kdm kdn khh khn wb ps ty : Nat → Int32} : (XW cI a pl n st ik td nd nh bs ktd knd knh kbs pg kd ag pa bo dm dn hh hn kag kpa kbo kdm kdn khh khn wb ps ty)[9]? = some (a 9, .inr (1, [.ref (a 16)])) := rfl
theorem XW_g10 {cI : ClassId} {a : Nat → Nat} {pl n st : Nat} {ik : Int32} {td nd nh : Nat} {bs : Int32} {ktd knd knh : Nat} {kbs : Int32} {pg kd ag pa bo dm dn hh hn kag kpa kbo kdm kdn khh khn wb ps ty : Nat → Int32} : (XW cI a pl n st ik td nd nh bs ktd knd knh kbs pg kd ag pa bo dm dn hh hn kag kpa kbo kdm kdn khh khn wb ps ty)[10]? = some (a 10, .inr (1, [.ref (a 17)])) := rfl
theorem XW_g11 {cI : ClassId} {a : Nat → Nat} {pl n st : Nat} {ik : Int32} {td nd nh : Nat} {bs : Int32} {ktd knd knh : Nat} {kbs : Int32} {pg kd ag pa bo dm dn hh hn kag kpa kbo kdm kdn khh khn wb ps ty : Nat → Int32} : (XW cI a pl n st ik td nd nh bs ktd knd knh kbs pg kd ag pa bo dm dn hh hn kag kpa kbo kdm kdn khh khn wb ps ty)[11]? = some (a 11, .inr (1, [.ref (a 18)])) := rfl
theorem XW_g12 {cI : ClassId} {a : Nat → Nat} {pl n st : Nat} {ik : Int32} {td nd nh : Nat} {bs : Int32} {ktd knd knh : Nat} {kbs : Int32} {pg kd ag pa bo dm dn hh hn kag kpa kbo kdm kdn khh khn wb ps ty : Nat → Int32} : (XW cI a pl n st ik td nd nh bs ktd knd knh kbs pg kd ag pa bo dm dn hh hn kag kpa kbo kdm kdn khh khn wb ps ty)[12]? = some (a 12, .inr (1, [.ref (a 19)])) := rfl
theorem XW_g13 {cI : ClassId} {a : Nat → Nat} {pl n st : Nat} {ik : Int32} {td nd nh : Nat} {bs : Int32} {ktd knd knh : Nat} {kbs : Int32} {pg kd ag pa bo dm dn hh hn kag kpa kbo kdm kdn khh khn wb ps ty : Nat → Int32} : (XW cI a pl n st ik td nd nh bs ktd knd knh kbs pg kd ag pa bo dm dn hh hn kag kpa kbo kdm kdn khh khn wb ps ty)[13]? = some (a 13, .inl (cI, 6, .inl ag)) := rfl
theorem XW_g14 {cI : ClassId} {a : Nat → Nat} {pl n st : Nat} {ik : Int32} {td nd nh : Nat} {bs : Int32} {ktd knd knh : Nat} {kbs : Int32} {pg kd ag pa bo dm dn hh hn kag kpa kbo kdm kdn khh khn wb ps ty : Nat → Int32} : (XW cI a pl n st ik td nd nh bs ktd knd knh kbs pg kd ag pa bo dm dn hh hn kag kpa kbo kdm kdn khh khn wb ps ty)[14]? = some (a 14, .inl (cI, 180, .inl pa)) := rfl
theorem XW_g15 {cI : ClassId} {a : Nat → Nat} {pl n st : Nat} {ik : Int32} {td nd nh : Nat} {bs : Int32} {ktd knd knh : Nat} {kbs : Int32} {pg kd ag pa bo dm dn hh hn kag kpa kbo kdm kdn khh khn wb ps ty : Nat → Int32} : (XW cI a pl n st ik td nd nh bs ktd knd knh kbs pg kd ag pa bo dm dn hh hn kag kpa kbo kdm kdn khh khn wb ps ty)[15]? = some (a 15, .inl (cI, 6, .inl bo)) := rfl
theorem XW_g16 {cI : ClassId} {a : Nat → Nat} {pl n st : Nat} {ik : Int32} {td nd nh : Nat} {bs : Int32} {ktd knd knh : Nat} {kbs : Int32} {pg kd ag pa bo dm dn hh hn kag kpa kbo kdm kdn khh khn wb ps ty : Nat → Int32} : (XW cI a pl n st ik td nd nh bs ktd knd knh kbs pg kd ag pa bo dm dn hh hn kag kpa kbo kdm kdn khh khn wb ps ty)[16]? = some (a 16, .inl (cI, 6, .inl dm)) := rfl
theorem XW_g17 {cI : ClassId} {a : Nat → Nat} {pl n st : Nat} {ik : Int32} {td nd nh : Nat} {bs : Int32} {ktd knd knh : Nat} {kbs : Int32} {pg kd ag pa bo dm dn hh hn kag kpa kbo kdm kdn khh khn wb ps ty : Nat → Int32} : (XW cI a pl n st ik td nd nh bs ktd knd knh kbs pg kd ag pa bo dm dn hh hn kag kpa kbo kdm kdn khh khn wb ps ty)[17]? = some (a 17, .inl (cI, 6, .inl dn)) := rfl
theorem XW_g18 {cI : ClassId} {a : Nat → Nat} {pl n st : Nat} {ik : Int32} {td nd nh : Nat} {bs : Int32} {ktd knd knh : Nat} {kbs : Int32} {pg kd ag pa bo dm dn hh hn kag kpa kbo kdm kdn khh khn wb ps ty : Nat → Int32} : (XW cI a pl n st ik td nd nh bs ktd knd knh kbs pg kd ag pa bo dm dn hh hn kag kpa kbo kdm kdn khh khn wb ps ty)[18]? = some (a 18, .inl (cI, 6, .inl hh)) := rfl
theorem XW_g19 {cI : ClassId} {a : Nat → Nat} {pl n st : Nat} {ik : Int32} {td nd nh : Nat} {bs : Int32} {ktd knd knh : Nat} {kbs : Int32} {pg kd ag pa bo dm dn hh hn kag kpa kbo kdm kdn khh khn wb ps ty : Nat → Int32} : (XW cI a pl n st ik td nd nh bs ktd knd knh kbs pg kd ag pa bo dm dn hh hn kag kpa kbo kdm kdn khh khn wb ps ty)[19]? = some (a 19, .inl (cI, 6, .inl hn)) := rfl
theorem XW_g20 {cI : ClassId} {a : Nat → Nat} {pl n st : Nat} {ik : Int32} {td nd nh : Nat} {bs : Int32} {ktd knd knh : Nat} {kbs : Int32} {pg kd ag pa bo dm dn hh hn kag kpa kbo kdm kdn khh khn wb ps ty : Nat → Int32} : (XW cI a pl n st ik td nd nh bs ktd knd knh kbs pg kd ag pa bo dm dn hh hn kag kpa kbo kdm kdn khh khn wb ps ty)[20]? = some (a 20, .inr (0, [.int (nI ktd), .int kbs, .int (nI knd), .int (nI knh), .ref (a 21), .ref (a 22), .ref (a 23), .ref (a 24), .ref (a 25), .ref (a 26), .ref (a 27)])) := rfl
theorem XW_g21 {cI : ClassId} {a : Nat → Nat} {pl n st : Nat} {ik : Int32} {td nd nh : Nat} {bs : Int32} {ktd knd knh : Nat} {kbs : Int32} {pg kd ag pa bo dm dn hh hn kag kpa kbo kdm kdn khh khn wb ps ty : Nat → Int32} : (XW cI a pl n st ik td nd nh bs ktd knd knh kbs pg kd ag pa bo dm dn hh hn kag kpa kbo kdm kdn khh khn wb ps ty)[21]? = some (a 21, .inr (1, [.ref (a 28)])) := rfl
theorem XW_g22 {cI : ClassId} {a : Nat → Nat} {pl n st : Nat} {ik : Int32} {td nd nh : Nat} {bs : Int32} {ktd knd knh : Nat} {kbs : Int32} {pg kd ag pa bo dm dn hh hn kag kpa kbo kdm kdn khh khn wb ps ty : Nat → Int32} : (XW cI a pl n st ik td nd nh bs ktd knd knh kbs pg kd ag pa bo dm dn hh hn kag kpa kbo kdm kdn khh khn wb ps ty)[22]? = some (a 22, .inr (1, [.ref (a 29)])) := rfl
theorem XW_g23 {cI : ClassId} {a : Nat → Nat} {pl n st : Nat} {ik : Int32} {td nd nh : Nat} {bs : Int32} {ktd knd knh : Nat} {kbs : Int32} {pg kd ag pa bo dm dn hh hn kag kpa kbo kdm kdn khh khn wb ps ty : Nat → Int32} : (XW cI a pl n st ik td nd nh bs ktd knd knh kbs pg kd ag pa bo dm dn hh hn kag kpa kbo kdm kdn khh khn wb ps ty)[23]? = some (a 23, .inr (1, [.ref (a 30)])) := rfl
theorem XW_g24 {cI : ClassId} {a : Nat → Nat} {pl n st : Nat} {ik : Int32} {td nd nh : Nat} {bs : Int32} {ktd knd knh : Nat} {kbs : Int32} {pg kd ag pa bo dm dn hh hn kag kpa kbo kdm kdn khh khn wb ps ty : Nat → Int32} : (XW cI a pl n st ik td nd nh bs ktd knd knh kbs pg kd ag pa bo dm dn hh hn kag kpa kbo kdm kdn khh khn wb ps ty)[24]? = some (a 24, .inr (1, [.ref (a 31)])) := rfl
theorem XW_g25 {cI : ClassId} {a : Nat → Nat} {pl n st : Nat} {ik : Int32} {td nd nh : Nat} {bs : Int32} {ktd knd knh : Nat} {kbs : Int32} {pg kd ag pa bo dm dn hh hn kag kpa kbo kdm kdn khh khn wb ps ty : Nat → Int32} : (XW cI a pl n st ik td nd nh bs ktd knd knh kbs pg kd ag pa bo dm dn hh hn kag kpa kbo kdm kdn khh khn wb ps ty)[25]? = some (a 25, .inr (1, [.ref (a 32)])) := rfl
theorem XW_g26 {cI : ClassId} {a : Nat → Nat} {pl n st : Nat} {ik : Int32} {td nd nh : Nat} {bs : Int32} {ktd knd knh : Nat} {kbs : Int32} {pg kd ag pa bo dm dn hh hn kag kpa kbo kdm kdn khh khn wb ps ty : Nat → Int32} : (XW cI a pl n st ik td nd nh bs ktd knd knh kbs pg kd ag pa bo dm dn hh hn kag kpa kbo kdm kdn khh khn wb ps ty)[26]? = some (a 26, .inr (1, [.ref (a 33)])) := rfl
theorem XW_g27 {cI : ClassId} {a : Nat → Nat} {pl n st : Nat} {ik : Int32} {td nd nh : Nat} {bs : Int32} {ktd knd knh : Nat} {kbs : Int32} {pg kd ag pa bo dm dn hh hn kag kpa kbo kdm kdn khh khn wb ps ty : Nat → Int32} : (XW cI a pl n st ik td nd nh bs ktd knd knh kbs pg kd ag pa bo dm dn hh hn kag kpa kbo kdm kdn khh khn wb ps ty)[27]? = some (a 27, .inr (1, [.ref (a 34)])) := rfl
theorem XW_g28 {cI : ClassId} {a : Nat → Nat} {pl n st : Nat} {ik : Int32} {td nd nh : Nat} {bs : Int32} {ktd knd knh : Nat} {kbs : Int32} {pg kd ag pa bo dm dn hh hn kag kpa kbo kdm kdn khh khn wb ps ty : Nat → Int32} : (XW cI a pl n st ik td nd nh bs ktd knd knh kbs pg kd ag pa bo dm dn hh hn kag kpa kbo kdm kdn khh khn wb ps ty)[28]? = some (a 28, .inl (cI, 6, .inl kag)) := rfl
theorem XW_g29 {cI : ClassId} {a : Nat → Nat} {pl n st : Nat} {ik : Int32} {td nd nh : Nat} {bs : Int32} {ktd knd knh : Nat} {kbs : Int32} {pg kd ag pa bo dm dn hh hn kag kpa kbo kdm kdn khh khn wb ps ty : Nat → Int32} : (XW cI a pl n st ik td nd nh bs ktd knd knh kbs pg kd ag pa bo dm dn hh hn kag kpa kbo kdm kdn khh khn wb ps ty)[29]? = some (a 29, .inl (cI, 180, .inl kpa)) := rfl
theorem XW_g30 {cI : ClassId} {a : Nat → Nat} {pl n st : Nat} {ik : Int32} {td nd nh : Nat} {bs : Int32} {ktd knd knh : Nat} {kbs : Int32} {pg kd ag pa bo dm dn hh hn kag kpa kbo kdm kdn khh khn wb ps ty : Nat → Int32} : (XW cI a pl n st ik td nd nh bs ktd knd knh kbs pg kd ag pa bo dm dn hh hn kag kpa kbo kdm kdn khh khn wb ps ty)[30]? = some (a 30, .inl (cI, 6, .inl kbo)) := rfl
theorem XW_g31 {cI : ClassId} {a : Nat → Nat} {pl n st : Nat} {ik : Int32} {td nd nh : Nat} {bs : Int32} {ktd knd knh : Nat} {kbs : Int32} {pg kd ag pa bo dm dn hh hn kag kpa kbo kdm kdn khh khn wb ps ty : Nat → Int32} : (XW cI a pl n st ik td nd nh bs ktd knd knh kbs pg kd ag pa bo dm dn hh hn kag kpa kbo kdm kdn khh khn wb ps ty)[31]? = some (a 31, .inl (cI, 6, .inl kdm)) := rfl
theorem XW_g32 {cI : ClassId} {a : Nat → Nat} {pl n st : Nat} {ik : Int32} {td nd nh : Nat} {bs : Int32} {ktd knd knh : Nat} {kbs : Int32} {pg kd ag pa bo dm dn hh hn kag kpa kbo kdm kdn khh khn wb ps ty : Nat → Int32} : (XW cI a pl n st ik td nd nh bs ktd knd knh kbs pg kd ag pa bo dm dn hh hn kag kpa kbo kdm kdn khh khn wb ps ty)[32]? = some (a 32, .inl (cI, 6, .inl kdn)) := rfl
theorem XW_g33 {cI : ClassId} {a : Nat → Nat} {pl n st : Nat} {ik : Int32} {td nd nh : Nat} {bs : Int32} {ktd knd knh : Nat} {kbs : Int32} {pg kd ag pa bo dm dn hh hn kag kpa kbo kdm kdn khh khn wb ps ty : Nat → Int32} : (XW cI a pl n st ik td nd nh bs ktd knd knh kbs pg kd ag pa bo dm dn hh hn kag kpa kbo kdm kdn khh khn wb ps ty)[33]? = some (a 33, .inl (cI, 6, .inl khh)) := rfl
theorem XW_g34 {cI : ClassId} {a : Nat → Nat} {pl n st : Nat} {ik : Int32} {td nd nh : Nat} {bs : Int32} {ktd knd knh : Nat} {kbs : Int32} {pg kd ag pa bo dm dn hh hn kag kpa kbo kdm kdn khh khn wb ps ty : Nat → Int32} : (XW cI a pl n st ik td nd nh bs ktd knd knh kbs pg kd ag pa bo dm dn hh hn kag kpa kbo kdm kdn khh khn wb ps ty)[34]? = some (a 34, .inl (cI, 6, .inl khn)) := rfl
theorem XW_g35 {cI : ClassId} {a : Nat → Nat} {pl n st : Nat} {ik : Int32} {td nd nh : Nat} {bs : Int32} {ktd knd knh : Nat} {kbs : Int32} {pg kd ag pa bo dm dn hh hn kag kpa kbo kdm kdn khh khn wb ps ty : Nat → Int32} : (XW cI a pl n st ik td nd nh bs ktd knd knh kbs pg kd ag pa bo dm dn hh hn kag kpa kbo kdm kdn khh khn wb ps ty)[35]? = some (a 35, .inr (1, [.ref (a 36)])) := rfl
theorem XW_g36 {cI : ClassId} {a : Nat → Nat} {pl n st : Nat} {ik : Int32} {td nd nh : Nat} {bs : Int32} {ktd knd knh : Nat} {kbs : Int32} {pg kd ag pa bo dm dn hh hn kag kpa kbo kdm kdn khh khn wb ps ty : Nat → Int32} : (XW cI a pl n st ik td nd nh bs ktd knd knh kbs pg kd ag pa bo dm dn hh hn kag kpa kbo kdm kdn khh khn wb ps ty)[36]? = some (a 36, .inl (cI, 6, .inl wb)) := rfl
theorem XW_g37 {cI : ClassId} {a : Nat → Nat} {pl n st : Nat} {ik : Int32} {td nd nh : Nat} {bs : Int32} {ktd knd knh : Nat} {kbs : Int32} {pg kd ag pa bo dm dn hh hn kag kpa kbo kdm kdn khh khn wb ps ty : Nat → Int32} : (XW cI a pl n st ik td nd nh bs ktd knd knh kbs pg kd ag pa bo dm dn hh hn kag kpa kbo kdm kdn khh khn wb ps ty)[37]? = some (a 37, .inr (1, [.ref (a 38)])) := rfl
theorem XW_g38 {cI : ClassId} {a : Nat → Nat} {pl n st : Nat} {ik : Int32} {td nd nh : Nat} {bs : Int32} {ktd knd knh : Nat} {kbs : Int32} {pg kd ag pa bo dm dn hh hn kag kpa kbo kdm kdn khh khn wb ps ty : Nat → Int32} : (XW cI a pl n st ik td nd nh bs ktd knd knh kbs pg kd ag pa bo dm dn hh hn kag kpa kbo kdm kdn khh khn wb ps ty)[38]? = some (a 38, .inl (cI, 31, .inl ps)) := rfl
theorem XW_g39 {cI : ClassId} {a : Nat → Nat} {pl n st : Nat} {ik : Int32} {td nd nh : Nat} {bs : Int32} {ktd knd knh : Nat} {kbs : Int32} {pg kd ag pa bo dm dn hh hn kag kpa kbo kdm kdn khh khn wb ps ty : Nat → Int32} : (XW cI a pl n st ik td nd nh bs ktd knd knh kbs pg kd ag pa bo dm dn hh hn kag kpa kbo kdm kdn khh khn wb ps ty)[39]? = some (a 39, .inr (1, [.ref (a 40)])) := rfl
theorem XW_g40 {cI : ClassId} {a : Nat → Nat} {pl n st : Nat} {ik : Int32} {td nd nh : Nat} {bs : Int32} {ktd knd knh : Nat} {kbs : Int32} {pg kd ag pa bo dm dn hh hn kag kpa kbo kdm kdn khh khn wb ps ty : Nat → Int32} : (XW cI a pl n st ik td nd nh bs ktd knd knh kbs pg kd ag pa bo dm dn hh hn kag kpa kbo kdm kdn khh khn wb ps ty)[40]? = some (a 40, .inl (cI, 40, .inl ty)) := rfl
abbrev rm_X2_isA : Room := { frames := 0, cells := 0, slots := 0, locals := 0 }
set_option maxRecDepth 100000 in
set_option maxHeartbeats 4000000 in
theorem c_X2_isA (l : Launch) (D : va_G) (cI cB : ClassId) (aS : Nat) (k w : Int32)  : Met l yX2_isA (mw yX2_isA cX2_isA 2 (some .boolean)) rm_X2_isA (RP D cI cB aS ([]) [.int k, .int w]) (vp_Si (fun r => r = (bi (isAF k w)))) 0 0 (fun _ => False) := by
  refine met_of (by decide) (Nat.le_of_ble_eq_true rfl) ?_
  intro p e s m below meth c ls hx hb hr hml hown hg hlocks hin hK hP hl
  have hown : s.vm.findClass RX2 = some m.cls := hown
  have hl : lv_has ls 2 [(0, .int k), (1, .int w)] := hl
  refine lv_iload_n hx hb dX2_isA_0 rfl (lv_at hl 1 rfl) ?_
  refine lv_if_eq (tgt := 19) hx hb dX2_isA_1 (by decide) (fun (c_1 : w = nI 0) => ?_) (fun (c_1 : ¬ w = nI 0) => ?_)
  · skip
    refine lv_iconst (v := (nI 1)) hx hb dX2_isA_19 (by decide) ?_
    refine lv_goto (tgt := 24) hx hb dX2_isA_20 (by decide) ?_
    exact rr_z hx hb hr hlocks dX2_isA_24 bi_nar (ret_t (Or.inl c_1))
  · skip
    refine lv_iload_n hx hb dX2_isA_4 rfl (lv_at hl 1 rfl) ?_
    refine lv_iload_n hx hb dX2_isA_5 rfl (lv_at hl 0 rfl) ?_
    refine lv_icmp_eq (tgt := 19) hx hb dX2_isA_6 (by decide) (fun c_6 => ?_) (fun c_6 => ?_)
    · skip
      refine lv_iconst (v := (nI 1)) hx hb dX2_isA_19 (by decide) ?_
      refine lv_goto (tgt := 24) hx hb dX2_isA_20 (by decide) ?_
      exact rr_z hx hb hr hlocks dX2_isA_24 bi_nar (ret_t (Or.inr (Or.inl c_6)))
    · skip
      refine lv_iload_n hx hb dX2_isA_9 rfl (lv_at hl 1 rfl) ?_
      refine lv_iconst (v := (nI 2)) hx hb dX2_isA_10 (by decide) ?_
      refine lv_icmp_ne (tgt := 23) hx hb dX2_isA_11 (by decide) (fun c_11 => ?_) (fun c_11 => ?_)
      · skip
        refine lv_iconst (v := (nI 0)) hx hb dX2_isA_23 (by decide) ?_
        exact rr_z hx hb hr hlocks dX2_isA_24 bi_nar (ret_f (fun q => q.elim c_1 (fun q => q.elim c_6 (fun q => c_11 q.1))))
      · skip
        refine lv_iload_n hx hb dX2_isA_14 rfl (lv_at hl 0 rfl) ?_
        refine lv_iconst (v := (nI 4)) hx hb dX2_isA_15 (by decide) ?_
        refine lv_icmp_ne (tgt := 23) hx hb dX2_isA_16 (by decide) (fun c_16 => ?_) (fun c_16 => ?_)
        · skip
          refine lv_iconst (v := (nI 0)) hx hb dX2_isA_23 (by decide) ?_
          exact rr_z hx hb hr hlocks dX2_isA_24 bi_nar (ret_f (fun q => q.elim c_1 (fun q => q.elim c_6 (fun q => c_16 q.2))))
        · skip
          refine lv_iconst (v := (nI 1)) hx hb dX2_isA_19 (by decide) ?_
          refine lv_goto (tgt := 24) hx hb dX2_isA_20 (by decide) ?_
          exact rr_z hx hb hr hlocks dX2_isA_24 bi_nar (ret_t (Or.inr (Or.inr ⟨c_11, c_16⟩)))
abbrev rm_X2_numberOf : Room := { frames := 0, cells := 0, slots := 0, locals := 0 }
set_option maxRecDepth 100000 in
set_option maxHeartbeats 4000000 in
theorem c_X2_numberOf (l : Launch) (D : va_G) (cI cB : ClassId) (aS : Nat) (k x : Int32)  : Met l yX2_numberOf (mw yX2_numberOf cX2_numberOf 2 (some .int)) rm_X2_numberOf (RP D cI cB aS ([]) [.int k, .int x]) (vp_Si (fun r => r = (numF k x))) 0 0 (fun _ => False) := by
  refine met_of (by decide) (Nat.le_of_ble_eq_true rfl) ?_
  intro p e s m below meth c ls hx hb hr hml hown hg hlocks hin hK hP hl
  have hown : s.vm.findClass RX2 = some m.cls := hown
  have hl : lv_has ls 2 [(0, .int k), (1, .int x)] := hl
  refine lv_iload_n hx hb dX2_numberOf_0 rfl (lv_at hl 0 rfl) ?_
  refine lv_iconst (v := (nI 1)) hx hb dX2_numberOf_1 (by decide) ?_
  refine lv_icmp_ne (tgt := 11) hx hb dX2_numberOf_2 (by decide) (fun c_2 => ?_) (fun c_2 => ?_)
  · skip
    refine lv_iload_n hx hb dX2_numberOf_11 rfl (lv_at hl 1 rfl) ?_
    exact rr_i hx hb hr hlocks dX2_numberOf_12 ((if_neg c_2).symm)
  · skip
    refine lv_iload_n hx hb dX2_numberOf_5 rfl (lv_at hl 1 rfl) ?_
    refine lv_iconst (v := (nI 2)) hx hb dX2_numberOf_6 (by decide) ?_
    refine lv_idiv hx hb dX2_numberOf_7 (by decide) ?_
    refine lv_goto (tgt := 12) hx hb dX2_numberOf_8 (by decide) ?_
    exact rr_i hx hb hr hlocks dX2_numberOf_12 ((if_pos c_2).symm)
abbrev rm_X2_ageNextDay : Room := { frames := 0, cells := 0, slots := 0, locals := 0 }
set_option maxRecDepth 100000 in
set_option maxHeartbeats 4000000 in
theorem c_X2_ageNextDay (l : Launch) (D : va_G) (cI cB : ClassId) (aS : Nat) (k x : Int32)  : Met l yX2_ageNextDay (mw yX2_ageNextDay cX2_ageNextDay 2 (some .int)) rm_X2_ageNextDay (RP D cI cB aS ([]) [.int k, .int x]) (vp_Si (fun r => r = (nxF k x))) 0 0 (fun _ => False) := by
  refine met_of (by decide) (Nat.le_of_ble_eq_true rfl) ?_
  intro p e s m below meth c ls hx hb hr hml hown hg hlocks hin hK hP hl
  have hown : s.vm.findClass RX2 = some m.cls := hown
  have hl : lv_has ls 2 [(0, .int k), (1, .int x)] := hl
  refine lv_iload_n hx hb dX2_ageNextDay_0 rfl (lv_at hl 0 rfl) ?_
  refine lv_iconst (v := (nI 4)) hx hb dX2_ageNextDay_1 (by decide) ?_
  refine lv_icmp_ne (tgt := 9) hx hb dX2_ageNextDay_2 (by decide) (fun c_2 => ?_) (fun c_2 => ?_)
  · skip
    refine lv_iload_n hx hb dX2_ageNextDay_9 rfl (lv_at hl 1 rfl) ?_
    refine lv_iconst (v := (nI 1)) hx hb dX2_ageNextDay_10 (by decide) ?_
    refine lv_iadd hx hb dX2_ageNextDay_11 ?_
    exact rr_i hx hb hr hlocks dX2_ageNextDay_12 ((if_neg c_2).symm)
  · skip
    refine lv_iload_n hx hb dX2_ageNextDay_5 rfl (lv_at hl 1 rfl) ?_
    refine lv_goto (tgt := 12) hx hb dX2_ageNextDay_6 (by decide) ?_
    exact rr_i hx hb hr hlocks dX2_ageNextDay_12 ((if_pos c_2).symm)
abbrev rm_X2_cellOf : Room := { frames := 0, cells := 0, slots := 0, locals := 0 }
set_option maxRecDepth 100000 in
set_option maxHeartbeats 4000000 in
theorem c_X2_cellOf (l : Launch) (D : va_G) (cI cB : ClassId) (aS : Nat) (h d : Nat)  : Met l yX2_cellOf (mw yX2_cellOf cX2_cellOf 2 (some .int)) rm_X2_cellOf (RP D cI cB aS ([]) [.int (nI h), .int (nI d)]) (vp_Si (fun r => r = (nI (d * 6 + h)))) 0 0 (fun _ => False) := by
  refine met_of (by decide) (Nat.le_of_ble_eq_true rfl) ?_
  intro p e s m below meth c ls hx hb hr hml hown hg hlocks hin hK hP hl
  have hown : s.vm.findClass RX2 = some m.cls := hown
  have hl : lv_has ls 2 [(0, .int (nI h)), (1, .int (nI d))] := hl
  refine lv_iload_n hx hb dX2_cellOf_0 rfl (lv_at hl 1 rfl) ?_
  refine lv_bipush (v := (nI 6)) hx hb dX2_cellOf_1 (by decide) ?_
  refine nv_imul hx hb dX2_cellOf_3 ?_
  refine lv_iload_n hx hb dX2_cellOf_4 rfl (lv_at hl 0 rfl) ?_
  refine nv_iadd hx hb dX2_cellOf_5 ?_
  exact rr_i hx hb hr hlocks dX2_cellOf_6 rfl
abbrev rm_X2_isHouse : Room := { frames := 0, cells := 0, slots := 0, locals := 0 }
set_option maxRecDepth 100000 in
set_option maxHeartbeats 4000000 in
theorem c_X2_isHouse (l : Launch) (D : va_G) (cI cB : ClassId) (aS : Nat) (x0 n : Nat) (fs : List Value) (x : Int32) (f2 : fs[2]? = some (.int (nI n))) (hn6 : n ≤ 6) : Met l yX2_isHouse (mw yX2_isHouse cX2_isHouse 2 (some .boolean)) rm_X2_isHouse (RP D cI cB aS ([(x0, .inr (2, fs))]) [.ref x0, .int x]) (vp_Si (fun r => r = (bi (hIn n x)))) 0 0 (fun _ => False) := by
  refine met_of (by decide) (Nat.le_of_ble_eq_true rfl) ?_
  intro p e s m below meth c ls hx hb hr hml hown hg hlocks hin hK hP hl
  have hown : s.vm.findClass RX2 = some m.cls := hown
  have hl : lv_has ls 2 [(0, .ref x0), (1, .int x)] := hl
  refine lv_iload_n hx hb dX2_isHouse_0 rfl (lv_at hl 1 rfl) ?_
  refine lv_if_lt (tgt := 16) hx hb dX2_isHouse_1 (by decide) (fun c_1 => ?_) (fun c_1 => ?_)
  · skip
    refine lv_iconst (v := (nI 0)) hx hb dX2_isHouse_16 (by decide) ?_
    exact rr_z hx hb hr hlocks dX2_isHouse_17 bi_nar (ret_f (fun q => Int32.not_lt.mpr q.1 c_1))
  · skip
    refine lv_iload_n hx hb dX2_isHouse_4 rfl (lv_at hl 1 rfl) ?_
    refine lv_aload_n hx hb dX2_isHouse_5 rfl (lv_at hl 0 rfl) ?_
    refine va_get (D := D) (ci := 2) (v := .int (nI n)) (C := RX2) (T := TX2) (N := 11) hx hb hg us_X2 hown hK.1 hP 0 rfl rfl 2 (by decide) (hg _ gm_68) (fun _ h9 => h9) f2 dX2_isHouse_6 ?_
    refine lv_icmp_ge (tgt := 16) hx hb dX2_isHouse_9 (by decide) (fun c_9 => ?_) (fun c_9 => ?_)
    · skip
      refine lv_iconst (v := (nI 0)) hx hb dX2_isHouse_16 (by decide) ?_
      exact rr_z hx hb hr hlocks dX2_isHouse_17 bi_nar (ret_f (fun q => Int32.not_lt.mpr c_9 q.2))
    · skip
      refine lv_iconst (v := (nI 1)) hx hb dX2_isHouse_12 (by decide) ?_
      refine lv_goto (tgt := 17) hx hb dX2_isHouse_13 (by decide) ?_
      exact rr_z hx hb hr hlocks dX2_isHouse_17 bi_nar (ret_t ⟨Int32.not_lt.mp c_1, Int32.not_le.mp c_9⟩)
abbrev rm_X2_lendsACradle : Room := { frames := 1, cells := 0, slots := 0, locals := 21 }
theorem vf_X2_isHouse : vfacts RX2 yX2_isHouse cX2_isHouse 2 (some .boolean) 1 := ⟨⟨rfl, by decide +kernel, by decide +kernel, by decide +kernel⟩, gm_93, gm_356, gm_2, gm_94⟩
theorem sf_X2_isA : sfacts RX2 yX2_isA cX2_isA 2 (some .boolean) 2 := ⟨⟨rfl, by decide +kernel, by decide +kernel, by decide +kernel⟩, gm_128, gm_2, gm_129⟩
set_option maxRecDepth 100000 in
set_option maxHeartbeats 4000000 in
theorem c_X2_lendsACradle (l : Launch) (D : va_G) (cI cB : ClassId) (aS : Nat) (x0 k0 k1 n : Nat) (fs : List Value) (kd : Nat → Int32) (h : Nat) (f2 : fs[2]? = some (.int (nI n))) (f4 : fs[4]? = some (.ref k0)) (qh : h < n) (hn6 : n ≤ 6) : Met l yX2_lendsACradle (mw yX2_lendsACradle cX2_lendsACradle 2 (some .boolean)) rm_X2_lendsACradle (RP D cI cB aS ([(x0, .inr (2, fs)), (k0, .inr (1, [.ref k1])), (k1, .inl (cI, 6, .inl kd))]) [.ref x0, .int (nI h)]) (vp_Si (fun r => r = (bi (lendF n kd h)))) 0 0 (fun _ => False) := by
  refine met_of (by decide) (Nat.le_of_ble_eq_true rfl) ?_
  intro p e s m below meth c ls hx hb hr hml hown hg hlocks hin hK hP hl
  have hown : s.vm.findClass RX2 = some m.cls := hown
  have hl : lv_has ls 2 [(0, .ref x0), (1, .int (nI h))] := hl
  refine lv_aload_n hx hb dX2_lendsACradle_0 rfl (lv_at hl 0 rfl) ?_
  refine lv_iload_n hx hb dX2_lendsACradle_1 rfl (lv_at hl 1 rfl) ?_
  refine lv_iconst (v := (nI 1)) hx hb dX2_lendsACradle_2 (by decide) ?_
  refine nv_iadd hx hb dX2_lendsACradle_3 ?_
  have hP_1 := hP.sub (ws' := [(x0, .inr (2, fs))]) [0] rfl
  refine rdV (As := [.int (nI (h + 1))]) (rest := []) hx hb hml hown hg (c_X2_isHouse l D cI cB aS x0 n fs (nI (h + 1)) f2 (by first | assumption | omega)) gm_92 vf_X2_isHouse ⟨Nat.le_of_ble_eq_true rfl, Nat.le_of_ble_eq_true rfl⟩ ⟨rfl, rfl⟩ ⟨Nat.zero_le _, Nat.zero_le _⟩ (RP.preV hK hP_1 (q0 := 0) (ci := 2) rfl rfl) rfl hl.1 rfl (Nat.le_of_ble_eq_true rfl) dX2_lendsACradle_4 ?_
  rw [show ((bi (hIn n (nI (h + 1)))) : Int32) = (bi (h + 1 < n)) from bi_c (hIn_iff (by omega) (by omega))]
  refine bv_if_eq (tgt := 31) hx hb dX2_lendsACradle_7 (by decide) (fun c_7 => ?_) (fun c_7 => ?_)
  · skip
    refine lv_iconst (v := (nI 0)) hx hb dX2_lendsACradle_31 (by decide) ?_
    exact rr_z hx hb hr hlocks dX2_lendsACradle_32 bi_nar (ret_f (fun q => c_7 q.1))
  · skip
    refine lv_aload_n hx hb dX2_lendsACradle_10 rfl (lv_at hl 0 rfl) ?_
    refine va_get (D := D) (ci := 2) (v := .ref k0) (C := RX2) (T := TX2) (N := 11) hx hb hg us_X2 hown hK.1 hP 0 rfl rfl 4 (by decide) (hg _ gm_70) (fun _ h9 => h9) f4 dX2_lendsACradle_11 ?_
    refine lv_iload_n hx hb dX2_lendsACradle_14 rfl (lv_at hl 1 rfl) ?_
    refine lv_iconst (v := (nI 1)) hx hb dX2_lendsACradle_15 (by decide) ?_
    refine nv_iadd hx hb dX2_lendsACradle_16 ?_
    have hP_2 := hP.sub (ws' := [(k0, .inr (1, [.ref k1])), (k1, .inl (cI, 6, .inl kd))]) [1, 2] rfl
    refine rdV (As := [.int (nI (h + 1))]) (rest := []) hx hb hml hown hg (c_X1_at l D cI cB aS k0 k1 6 kd (h + 1) (by first | assumption | omega) (by first | assumption | omega)) gm_95 vf_X1_at ⟨Nat.le_of_ble_eq_true rfl, Nat.le_of_ble_eq_true rfl⟩ ⟨rfl, rfl⟩ ⟨Nat.zero_le _, Nat.zero_le _⟩ (RP.preV hK hP_2 (q0 := 0) (ci := 1) rfl rfl) rfl hl.1 rfl (Nat.le_of_ble_eq_true rfl) dX2_lendsACradle_17 ?_
    refine lv_iconst (v := (nI 3)) hx hb dX2_lendsACradle_20 (by decide) ?_
    refine rdS (As := [.int (kd (h + 1)), .int (nI 3)]) (rest := []) hx hb hml hown hg (c_X2_isA l D cI cB aS (kd (h + 1)) (nI 3)) gm_127 sf_X2_isA ⟨Nat.le_of_ble_eq_true rfl, Nat.le_of_ble_eq_true rfl⟩ ⟨rfl, rfl⟩ ⟨Nat.zero_le _, Nat.zero_le _⟩ (RP.preS hK (fun k q h => by simp at h)) rfl hl.1 rfl (Nat.le_of_ble_eq_true rfl) dX2_lendsACradle_21 ?_
    rw [show ((bi (isAF (kd (h + 1)) (nI 3))) : Int32) = (bi (kd (h + 1) = nI 3)) from bi_c isA_3]
    refine bv_if_eq (tgt := 31) hx hb dX2_lendsACradle_24 (by decide) (fun c_24 => ?_) (fun c_24 => ?_)
    · skip
      refine lv_iconst (v := (nI 0)) hx hb dX2_lendsACradle_31 (by decide) ?_
      exact rr_z hx hb hr hlocks dX2_lendsACradle_32 bi_nar (ret_f (fun q => c_24 q.2))
    · skip
      refine lv_iconst (v := (nI 1)) hx hb dX2_lendsACradle_27 (by decide) ?_
      refine lv_goto (tgt := 32) hx hb dX2_lendsACradle_28 (by decide) ?_
      exact rr_z hx hb hr hlocks dX2_lendsACradle_32 bi_nar (ret_t ⟨c_7, c_24⟩)
abbrev rm_X2_bear : Room := { frames := 2, cells := 0, slots := 0, locals := 42 }
theorem vf_X2_lendsACradle : vfacts RX2 yX2_lendsACradle cX2_lendsACradle 2 (some .boolean) 1 := ⟨⟨rfl, by decide +kernel, by decide +kernel, by decide +kernel⟩, gm_142, gm_364, gm_2, gm_143⟩
set_option maxRecDepth 100000 in
set_option maxHeartbeats 4000000 in
theorem c_X2_bear (l : Launch) (D : va_G) (cI cB : ClassId) (aS : Nat) (x0 k0 k1 r0 r1 n : Nat) (fs : List Value) (kd ag : Nat → Int32) (h : Nat) (hD0 : va_D (fun _ => True) ([(x0, .inr (2, fs)), (k0, .inr (1, [.ref k1])), (k1, .inl (cI, 6, .inl kd)), (r0, .inr (1, [.ref r1])), (r1, .inl (cI, 6, .inl ag))])) (f2 : fs[2]? = some (.int (nI n))) (f4 : fs[4]? = some (.ref k0)) (qh : h < n) (hn6 : n ≤ 6) : Met l yX2_bear (mw yX2_bear cX2_bear 3 none) rm_X2_bear (RP D cI cB aS ([(x0, .inr (2, fs)), (k0, .inr (1, [.ref k1])), (k1, .inl (cI, 6, .inl kd)), (r0, .inr (1, [.ref r1])), (r1, .inl (cI, 6, .inl ag))]) [.ref x0, .ref r0, .int (nI h)]) (wq mkV ([(x0, .inr (2, fs)), (k0, .inr (1, [.ref k1])), (k1, .inl (cI, 6, .inl kd)), (r0, .inr (1, [.ref r1])), (r1, .inl (cI, 6, .inl ag))]) (fun (_ : Unit) => [(x0, .inr (2, fs)), (k0, .inr (1, [.ref k1])), (k1, .inl (cI, 6, .inl kd)), (r0, .inr (1, [.ref r1])), (r1, .inl (cI, 6, .inl (bearF n kd ag h)))]) D (fun (_ : Unit) (_ : Unit) => True)) 0 0 (inW ([(x0, .inr (2, fs)), (k0, .inr (1, [.ref k1])), (k1, .inl (cI, 6, .inl kd)), (r0, .inr (1, [.ref r1])), (r1, .inl (cI, 6, .inl ag))])) := by
  refine met_of (by decide) (Nat.le_of_ble_eq_true rfl) ?_
  intro p e s m below meth c ls hx hb hr hml hown hg hlocks hin hK hP hl
  have hown : s.vm.findClass RX2 = some m.cls := hown
  have hl : lv_has ls 3 [(0, .ref x0), (1, .ref r0), (2, .int (nI h))] := hl
  have hD := hD0.here
  have hS0 : va_S (inW ([(x0, .inr (2, fs)), (k0, .inr (1, [.ref k1])), (k1, .inl (cI, 6, .inl kd)), (r0, .inr (1, [.ref r1])), (r1, .inl (cI, 6, .inl ag))])) s.heap s.heap [] := va_S.rf
  obtain ⟨H, hH⟩ : ∃ H, H = s.heap := ⟨_, rfl⟩
  have hS : va_S (inW ([(x0, .inr (2, fs)), (k0, .inr (1, [.ref k1])), (k1, .inl (cI, 6, .inl kd)), (r0, .inr (1, [.ref r1])), (r1, .inl (cI, 6, .inl ag))])) s.heap H [] := by rw [hH]; exact hS0
  clear hS0
  rw [← hH] at hP ⊢
  generalize hAe : inW ([(x0, .inr (2, fs)), (k0, .inr (1, [.ref k1])), (k1, .inl (cI, 6, .inl kd)), (r0, .inr (1, [.ref r1])), (r1, .inl (cI, 6, .inl ag))]) = A at hD hS ⊢
  refine lv_aload_n hx hb dX2_bear_0 rfl (lv_at hl 1 rfl) ?_
  refine lv_iload_n hx hb dX2_bear_1 rfl (lv_at hl 2 rfl) ?_
  refine lv_iconst (v := (nI 0)) hx hb dX2_bear_2 (by decide) ?_
  have hP_1 := hP.sub (ws' := [(r0, .inr (1, [.ref r1])), (r1, .inl (cI, 6, .inl ag))]) [3, 4] rfl
  have hC_2 : ([3, 4] : List Nat).map (fun q_ => ([(x0, .inr (2, fs)), (k0, .inr (1, [.ref k1])), (k1, .inl (cI, 6, .inl kd)), (r0, .inr (1, [.ref r1])), (r1, .inl (cI, 6, .inl ag))] : va_W)[q_]?) = List.map some ([(r0, .inr (1, [.ref r1])), (r1, .inl (cI, 6, .inl ag))] : va_W) := rfl
  have hDc_2 : va_D (fun _ => True) [(r0, .inr (1, [.ref r1])), (r1, .inl (cI, 6, .inl ag))] := (hD.sub (ws' := [(r0, .inr (1, [.ref r1])), (r1, .inl (cI, 6, .inl ag))]) [3, 4] (by decide) hC_2).weaken (fun _ _ _ _ => trivial)
  refine wrVv (As := [.int (nI h), .int (nI 0)]) (rest := []) hx hb hml hown hg (c_X1_put l D cI cB aS r0 r1 6 ag h (nI 0) hDc_2 (by first | assumption | omega) (by first | assumption | omega)) gm_137 vf_X1_put ⟨Nat.le_of_ble_eq_true rfl, Nat.le_of_ble_eq_true rfl⟩ ⟨rfl, rfl⟩ ⟨Nat.zero_le _, Nat.zero_le _⟩ (RP.preV hK hP_1 (q0 := 0) (ci := 1) rfl rfl) rfl hl.1 rfl (Nat.le_of_ble_eq_true rfl) dX2_bear_3 hS (inW_sub hD [3, 4] hC_2) (fun u_3 H1 locs hpo_3 hP1 hk1 hS => ?_)
  have hP : va_P D vwCl ([(x0, .inr (2, fs)), (k0, .inr (1, [.ref k1])), (k1, .inl (cI, 6, .inl kd)), (r0, .inr (1, [.ref r1])), (r1, .inl (cI, 6, .inl (upd ag h (nI 0))))]) H1 := wjoin (wc := [(r0, .inr (1, [.ref r1])), (r1, .inl (cI, 6, .inl ag))]) (w1 := [(r0, .inr (1, [.ref r1])), (r1, .inl (cI, 6, .inl (upd ag h (nI 0))))]) hP hD [3, 4] hC_2 rfl hP1 hk1
  have hD : va_D A ([(x0, .inr (2, fs)), (k0, .inr (1, [.ref k1])), (k1, .inl (cI, 6, .inl kd)), (r0, .inr (1, [.ref r1])), (r1, .inl (cI, 6, .inl (upd ag h (nI 0))))]) := hD.addr rfl
  clear hP1 hk1
  generalize H1 = H at hP hS ⊢
  refine lv_aload_n hx hb dX2_bear_6 rfl (lv_at hl 0 rfl) ?_
  refine lv_iload_n hx hb dX2_bear_7 rfl (lv_at hl 2 rfl) ?_
  have hP_4 := hP.sub (ws' := [(x0, .inr (2, fs)), (k0, .inr (1, [.ref k1])), (k1, .inl (cI, 6, .inl kd))]) [0, 1, 2] rfl
  refine rdV (As := [.int (nI h)]) (rest := []) hx hb hml hown hg (c_X2_lendsACradle l D cI cB aS x0 k0 k1 n fs kd h f2 f4 (by first | assumption | omega) (by first | assumption | omega)) gm_141 vf_X2_lendsACradle ⟨Nat.le_of_ble_eq_true rfl, Nat.le_of_ble_eq_true rfl⟩ ⟨rfl, rfl⟩ ⟨Nat.zero_le _, Nat.zero_le _⟩ (RP.preV hK hP_4 (q0 := 0) (ci := 2) rfl rfl) rfl hl.1 rfl (Nat.le_of_ble_eq_true rfl) dX2_bear_8 ?_
  refine bv_if_eq (tgt := 22) hx hb dX2_bear_11 (by decide) (fun c_11 => ?_) (fun c_11 => ?_)
  · skip
    subst hAe
    exact wr_v (w1 := fun (_ : Unit) => [(x0, .inr (2, fs)), (k0, .inr (1, [.ref k1])), (k1, .inl (cI, 6, .inl kd)), (r0, .inr (1, [.ref r1])), (r1, .inl (cI, 6, .inl (bearF n kd ag h)))]) hx hb hr hlocks hS () (by show va_P D vwCl ([(x0, .inr (2, fs)), (k0, .inr (1, [.ref k1])), (k1, .inl (cI, 6, .inl kd)), (r0, .inr (1, [.ref r1])), (r1, .inl (cI, 6, .inl (bearF n kd ag h)))]) H; rw [bear_f c_11]; exact hP) dX2_bear_22 trivial
  · skip
    refine lv_aload_n hx hb dX2_bear_14 rfl (lv_at hl 1 rfl) ?_
    refine lv_iload_n hx hb dX2_bear_15 rfl (lv_at hl 2 rfl) ?_
    refine lv_iconst (v := (nI 1)) hx hb dX2_bear_16 (by decide) ?_
    refine nv_iadd hx hb dX2_bear_17 ?_
    refine lv_iconst (v := (nI 0)) hx hb dX2_bear_18 (by decide) ?_
    have hP_5 := hP.sub (ws' := [(r0, .inr (1, [.ref r1])), (r1, .inl (cI, 6, .inl (upd ag h (nI 0))))]) [3, 4] rfl
    have hC_6 : ([3, 4] : List Nat).map (fun q_ => ([(x0, .inr (2, fs)), (k0, .inr (1, [.ref k1])), (k1, .inl (cI, 6, .inl kd)), (r0, .inr (1, [.ref r1])), (r1, .inl (cI, 6, .inl (upd ag h (nI 0))))] : va_W)[q_]?) = List.map some ([(r0, .inr (1, [.ref r1])), (r1, .inl (cI, 6, .inl (upd ag h (nI 0))))] : va_W) := rfl
    have hDc_6 : va_D (fun _ => True) [(r0, .inr (1, [.ref r1])), (r1, .inl (cI, 6, .inl (upd ag h (nI 0))))] := (hD.sub (ws' := [(r0, .inr (1, [.ref r1])), (r1, .inl (cI, 6, .inl (upd ag h (nI 0))))]) [3, 4] (by decide) hC_6).weaken (fun _ _ _ _ => trivial)
    refine wrVv (As := [.int (nI (h + 1)), .int (nI 0)]) (rest := []) hx hb hml hown hg (c_X1_put l D cI cB aS r0 r1 6 (upd ag h (nI 0)) (h + 1) (nI 0) hDc_6 (by first | assumption | omega) (by first | assumption | omega)) gm_137 vf_X1_put ⟨Nat.le_of_ble_eq_true rfl, Nat.le_of_ble_eq_true rfl⟩ ⟨rfl, rfl⟩ ⟨Nat.zero_le _, Nat.zero_le _⟩ (RP.preV hK hP_5 (q0 := 0) (ci := 1) rfl rfl) rfl hl.1 rfl (Nat.le_of_ble_eq_true rfl) dX2_bear_19 hS (inW_sub hD [3, 4] hC_6) (fun u_7 H1 locs hpo_7 hP1 hk1 hS => ?_)
    have hP : va_P D vwCl ([(x0, .inr (2, fs)), (k0, .inr (1, [.ref k1])), (k1, .inl (cI, 6, .inl kd)), (r0, .inr (1, [.ref r1])), (r1, .inl (cI, 6, .inl (upd (upd ag h (nI 0)) (h + 1) (nI 0))))]) H1 := wjoin (wc := [(r0, .inr (1, [.ref r1])), (r1, .inl (cI, 6, .inl (upd ag h (nI 0))))]) (w1 := [(r0, .inr (1, [.ref r1])), (r1, .inl (cI, 6, .inl (upd (upd ag h (nI 0)) (h + 1) (nI 0))))]) hP hD [3, 4] hC_6 rfl hP1 hk1
    have hD : va_D A ([(x0, .inr (2, fs)), (k0, .inr (1, [.ref k1])), (k1, .inl (cI, 6, .inl kd)), (r0, .inr (1, [.ref r1])), (r1, .inl (cI, 6, .inl (upd (upd ag h (nI 0)) (h + 1) (nI 0))))]) := hD.addr rfl
    clear hP1 hk1
    generalize H1 = H at hP hS ⊢
    subst hAe
    exact wr_v (w1 := fun (_ : Unit) => [(x0, .inr (2, fs)), (k0, .inr (1, [.ref k1])), (k1, .inl (cI, 6, .inl kd)), (r0, .inr (1, [.ref r1])), (r1, .inl (cI, 6, .inl (bearF n kd ag h)))]) hx hb hr hlocks hS () (by show va_P D vwCl ([(x0, .inr (2, fs)), (k0, .inr (1, [.ref k1])), (k1, .inl (cI, 6, .inl kd)), (r0, .inr (1, [.ref r1])), (r1, .inl (cI, 6, .inl (bearF n kd ag h)))]) H; rw [bear_t c_11]; exact hP) dX2_bear_22 trivial
abbrev rm_X2_bearIfMayBe : Room := { frames := 3, cells := 0, slots := 0, locals := 64 }
theorem vf_X2_bear : vfacts RX2 yX2_bear cX2_bear 3 none 2 := ⟨⟨rfl, by decide +kernel, by decide +kernel, by decide +kernel⟩, gm_135, gm_363, gm_2, gm_136⟩
set_option maxRecDepth 100000 in
set_option maxHeartbeats 4000000 in
theorem c_X2_bearIfMayBe (l : Launch) (D : va_G) (cI cB : ClassId) (aS : Nat) (x0 k0 k1 r0 r1 n : Nat) (fs : List Value) (kd ag : Nat → Int32) (h : Nat) (hD0 : va_D (fun _ => True) ([(x0, .inr (2, fs)), (k0, .inr (1, [.ref k1])), (k1, .inl (cI, 6, .inl kd)), (r0, .inr (1, [.ref r1])), (r1, .inl (cI, 6, .inl ag))])) (f2 : fs[2]? = some (.int (nI n))) (f4 : fs[4]? = some (.ref k0)) (qh : h < n) (hn6 : n ≤ 6) : Met l yX2_bearIfMayBe (mw yX2_bearIfMayBe cX2_bearIfMayBe 3 none) rm_X2_bearIfMayBe (RP D cI cB aS ([(x0, .inr (2, fs)), (k0, .inr (1, [.ref k1])), (k1, .inl (cI, 6, .inl kd)), (r0, .inr (1, [.ref r1])), (r1, .inl (cI, 6, .inl ag))]) [.ref x0, .ref r0, .int (nI h)]) (wq mkV ([(x0, .inr (2, fs)), (k0, .inr (1, [.ref k1])), (k1, .inl (cI, 6, .inl kd)), (r0, .inr (1, [.ref r1])), (r1, .inl (cI, 6, .inl ag))]) (fun (_ : Unit) => [(x0, .inr (2, fs)), (k0, .inr (1, [.ref k1])), (k1, .inl (cI, 6, .inl kd)), (r0, .inr (1, [.ref r1])), (r1, .inl (cI, 6, .inl (yB n kd ag h)))]) D (fun (_ : Unit) (_ : Unit) => True)) 0 0 (inW ([(x0, .inr (2, fs)), (k0, .inr (1, [.ref k1])), (k1, .inl (cI, 6, .inl kd)), (r0, .inr (1, [.ref r1])), (r1, .inl (cI, 6, .inl ag))])) := by
  refine met_of (by decide) (Nat.le_of_ble_eq_true rfl) ?_
  intro p e s m below meth c ls hx hb hr hml hown hg hlocks hin hK hP hl
  have hown : s.vm.findClass RX2 = some m.cls := hown
  have hl : lv_has ls 3 [(0, .ref x0), (1, .ref r0), (2, .int (nI h))] := hl
  have hD := hD0.here
  have hS0 : va_S (inW ([(x0, .inr (2, fs)), (k0, .inr (1, [.ref k1])), (k1, .inl (cI, 6, .inl kd)), (r0, .inr (1, [.ref r1])), (r1, .inl (cI, 6, .inl ag))])) s.heap s.heap [] := va_S.rf
  obtain ⟨H, hH⟩ : ∃ H, H = s.heap := ⟨_, rfl⟩
  have hS : va_S (inW ([(x0, .inr (2, fs)), (k0, .inr (1, [.ref k1])), (k1, .inl (cI, 6, .inl kd)), (r0, .inr (1, [.ref r1])), (r1, .inl (cI, 6, .inl ag))])) s.heap H [] := by rw [hH]; exact hS0
  clear hS0
  rw [← hH] at hP ⊢
  generalize hAe : inW ([(x0, .inr (2, fs)), (k0, .inr (1, [.ref k1])), (k1, .inl (cI, 6, .inl kd)), (r0, .inr (1, [.ref r1])), (r1, .inl (cI, 6, .inl ag))]) = A at hD hS ⊢
  refine lv_aload_n hx hb dX2_bearIfMayBe_0 rfl (lv_at hl 0 rfl) ?_
  refine va_get (D := D) (ci := 2) (v := .ref k0) (C := RX2) (T := TX2) (N := 11) hx hb hg us_X2 hown hK.1 hP 0 rfl rfl 4 (by decide) (hg _ gm_70) (fun _ h9 => h9) f4 dX2_bearIfMayBe_1 ?_
  refine lv_iload_n hx hb dX2_bearIfMayBe_4 rfl (lv_at hl 2 rfl) ?_
  have hP_1 := hP.sub (ws' := [(k0, .inr (1, [.ref k1])), (k1, .inl (cI, 6, .inl kd))]) [1, 2] rfl
  refine rdV (As := [.int (nI h)]) (rest := []) hx hb hml hown hg (c_X1_at l D cI cB aS k0 k1 6 kd h (by first | assumption | omega) (by first | assumption | omega)) gm_95 vf_X1_at ⟨Nat.le_of_ble_eq_true rfl, Nat.le_of_ble_eq_true rfl⟩ ⟨rfl, rfl⟩ ⟨Nat.zero_le _, Nat.zero_le _⟩ (RP.preV hK hP_1 (q0 := 0) (ci := 1) rfl rfl) rfl hl.1 rfl (Nat.le_of_ble_eq_true rfl) dX2_bearIfMayBe_5 ?_
  refine lv_iconst (v := (nI 2)) hx hb dX2_bearIfMayBe_8 (by decide) ?_
  refine rdS (As := [.int (kd h), .int (nI 2)]) (rest := []) hx hb hml hown hg (c_X2_isA l D cI cB aS (kd h) (nI 2)) gm_127 sf_X2_isA ⟨Nat.le_of_ble_eq_true rfl, Nat.le_of_ble_eq_true rfl⟩ ⟨rfl, rfl⟩ ⟨Nat.zero_le _, Nat.zero_le _⟩ (RP.preS hK (fun k q h => by simp at h)) rfl hl.1 rfl (Nat.le_of_ble_eq_true rfl) dX2_bearIfMayBe_9 ?_
  rw [show ((bi (isAF (kd h) (nI 2))) : Int32) = (bi ((kd h = nI 2 ∨ kd h = nI 4))) from bi_c isA_2]
  refine bv_if_ne (tgt := 21) hx hb dX2_bearIfMayBe_12 (by decide) (fun c_12 => ?_) (fun c_12 => ?_)
  · skip
    subst hAe
    exact wr_v (w1 := fun (_ : Unit) => [(x0, .inr (2, fs)), (k0, .inr (1, [.ref k1])), (k1, .inl (cI, 6, .inl kd)), (r0, .inr (1, [.ref r1])), (r1, .inl (cI, 6, .inl (yB n kd ag h)))]) hx hb hr hlocks hS () (by show va_P D vwCl ([(x0, .inr (2, fs)), (k0, .inr (1, [.ref k1])), (k1, .inl (cI, 6, .inl kd)), (r0, .inr (1, [.ref r1])), (r1, .inl (cI, 6, .inl (yB n kd ag h)))]) H; rw [yB_f c_12]; exact hP) dX2_bearIfMayBe_21 trivial
  · skip
    refine lv_aload_n hx hb dX2_bearIfMayBe_15 rfl (lv_at hl 0 rfl) ?_
    refine lv_aload_n hx hb dX2_bearIfMayBe_16 rfl (lv_at hl 1 rfl) ?_
    refine lv_iload_n hx hb dX2_bearIfMayBe_17 rfl (lv_at hl 2 rfl) ?_
    refine wrVv (As := [.ref r0, .int (nI h)]) (rest := []) hx hb hml hown hg (c_X2_bear l D cI cB aS x0 k0 k1 r0 r1 n fs kd ag h (hD.weaken (fun _ _ _ _ => trivial)) f2 f4 (by first | assumption | omega) (by first | assumption | omega)) gm_134 vf_X2_bear ⟨Nat.le_of_ble_eq_true rfl, Nat.le_of_ble_eq_true rfl⟩ ⟨rfl, rfl⟩ ⟨Nat.zero_le _, Nat.zero_le _⟩ (RP.preV hK hP (q0 := 0) (ci := 2) rfl rfl) rfl hl.1 rfl (Nat.le_of_ble_eq_true rfl) dX2_bearIfMayBe_18 hS (inW_all hD) (fun u_2 H1 locs hpo_2 hP1 hk1 hS => ?_)
    have hP : va_P D vwCl ([(x0, .inr (2, fs)), (k0, .inr (1, [.ref k1])), (k1, .inl (cI, 6, .inl kd)), (r0, .inr (1, [.ref r1])), (r1, .inl (cI, 6, .inl (bearF n kd ag h)))]) H1 := hP1
    have hD : va_D A ([(x0, .inr (2, fs)), (k0, .inr (1, [.ref k1])), (k1, .inl (cI, 6, .inl kd)), (r0, .inr (1, [.ref r1])), (r1, .inl (cI, 6, .inl (bearF n kd ag h)))]) := hD.addr rfl
    clear hP1 hk1
    generalize H1 = H at hP hS ⊢
    subst hAe
    exact wr_v (w1 := fun (_ : Unit) => [(x0, .inr (2, fs)), (k0, .inr (1, [.ref k1])), (k1, .inl (cI, 6, .inl kd)), (r0, .inr (1, [.ref r1])), (r1, .inl (cI, 6, .inl (yB n kd ag h)))]) hx hb hr hlocks hS () (by show va_P D vwCl ([(x0, .inr (2, fs)), (k0, .inr (1, [.ref k1])), (k1, .inl (cI, 6, .inl kd)), (r0, .inr (1, [.ref r1])), (r1, .inl (cI, 6, .inl (yB n kd ag h)))]) H; rw [yB_t c_12]; exact hP) dX2_bearIfMayBe_21 trivial
abbrev rm_X2_growOlder : Room := { frames := 1, cells := 0, slots := 0, locals := 22 }
theorem sf_X2_ageNextDay : sfacts RX2 yX2_ageNextDay cX2_ageNextDay 2 (some .int) 2 := ⟨⟨rfl, by decide +kernel, by decide +kernel, by decide +kernel⟩, gm_158, gm_2, gm_159⟩
set_option maxRecDepth 100000 in
set_option maxHeartbeats 4000000 in
theorem c_X2_growOlder (l : Launch) (D : va_G) (cI cB : ClassId) (aS : Nat) (x0 k0 k1 r0 r1 n : Nat) (fs : List Value) (kd ag : Nat → Int32)  (hD0 : va_D (fun _ => True) ([(x0, .inr (2, fs)), (k0, .inr (1, [.ref k1])), (k1, .inl (cI, 6, .inl kd)), (r0, .inr (1, [.ref r1])), (r1, .inl (cI, 6, .inl ag))])) (f2 : fs[2]? = some (.int (nI n))) (f4 : fs[4]? = some (.ref k0)) (hn6 : n ≤ 6) : Met l yX2_growOlder (mw yX2_growOlder cX2_growOlder 3 none) rm_X2_growOlder (RP D cI cB aS ([(x0, .inr (2, fs)), (k0, .inr (1, [.ref k1])), (k1, .inl (cI, 6, .inl kd)), (r0, .inr (1, [.ref r1])), (r1, .inl (cI, 6, .inl ag))]) [.ref x0, .ref r0]) (wq mkV ([(x0, .inr (2, fs)), (k0, .inr (1, [.ref k1])), (k1, .inl (cI, 6, .inl kd)), (r0, .inr (1, [.ref r1])), (r1, .inl (cI, 6, .inl ag))]) (fun (_ : Unit) => [(x0, .inr (2, fs)), (k0, .inr (1, [.ref k1])), (k1, .inl (cI, 6, .inl kd)), (r0, .inr (1, [.ref r1])), (r1, .inl (cI, 6, .inl (groF kd ag n)))]) D (fun (_ : Unit) (_ : Unit) => True)) 0 0 (inW ([(x0, .inr (2, fs)), (k0, .inr (1, [.ref k1])), (k1, .inl (cI, 6, .inl kd)), (r0, .inr (1, [.ref r1])), (r1, .inl (cI, 6, .inl ag))])) := by
  refine met_of (by decide) (Nat.le_of_ble_eq_true rfl) ?_
  intro p e s m below meth c ls hx hb hr hml hown hg hlocks hin hK hP hl
  have hown : s.vm.findClass RX2 = some m.cls := hown
  have hl : lv_has ls 3 [(0, .ref x0), (1, .ref r0)] := hl
  have hD := hD0.here
  have hS0 : va_S (inW ([(x0, .inr (2, fs)), (k0, .inr (1, [.ref k1])), (k1, .inl (cI, 6, .inl kd)), (r0, .inr (1, [.ref r1])), (r1, .inl (cI, 6, .inl ag))])) s.heap s.heap [] := va_S.rf
  obtain ⟨H, hH⟩ : ∃ H, H = s.heap := ⟨_, rfl⟩
  have hS : va_S (inW ([(x0, .inr (2, fs)), (k0, .inr (1, [.ref k1])), (k1, .inl (cI, 6, .inl kd)), (r0, .inr (1, [.ref r1])), (r1, .inl (cI, 6, .inl ag))])) s.heap H [] := by rw [hH]; exact hS0
  clear hS0
  rw [← hH] at hP ⊢
  generalize hAe : inW ([(x0, .inr (2, fs)), (k0, .inr (1, [.ref k1])), (k1, .inl (cI, 6, .inl kd)), (r0, .inr (1, [.ref r1])), (r1, .inl (cI, 6, .inl ag))]) = A at hD hS ⊢
  refine lv_iconst (v := (nI 0)) hx hb dX2_growOlder_0 (by decide) ?_
  refine lv_istore_n (lv' := [(2, .int (nI 0)), (0, .ref x0), (1, .ref r0)]) hx hb dX2_growOlder_1 rfl hl (by decide) rfl (fun ls hl => ?_)
  -- loop at 2
  refine loopW (nL := 3) (S := Unit) (B := n) (I := fun i u => True) (lv := fun i u => [(0, .ref x0), (1, .ref r0), (2, .int (nI i))]) (wf := fun i u => [(x0, .inr (2, fs)), (k0, .inr (1, [.ref k1])), (k1, .inl (cI, 6, .inl kd)), (r0, .inr (1, [.ref r1])), (r1, .inl (cI, 6, .inl (groF kd ag i)))]) 0 () (Nat.zero_le _) (trivial) (lv_sub hl [1, 2, 0] rfl) (by show va_P D vwCl ([(x0, .inr (2, fs)), (k0, .inr (1, [.ref k1])), (k1, .inl (cI, 6, .inl kd)), (r0, .inr (1, [.ref r1])), (r1, .inl (cI, 6, .inl (groF kd ag 0)))]) H; rw [gro_0]; exact hP) (hD.addr rfl) hS (fun i u ls H locs hj hI hl hP hD hS ih => ?_)
  have hP : va_P D vwCl ([(x0, .inr (2, fs)), (k0, .inr (1, [.ref k1])), (k1, .inl (cI, 6, .inl kd)), (r0, .inr (1, [.ref r1])), (r1, .inl (cI, 6, .inl (groF kd ag i)))]) H := hP
  have hD : va_D A ([(x0, .inr (2, fs)), (k0, .inr (1, [.ref k1])), (k1, .inl (cI, 6, .inl kd)), (r0, .inr (1, [.ref r1])), (r1, .inl (cI, 6, .inl (groF kd ag i)))]) := hD
  have hl : lv_has ls 3 [(0, .ref x0), (1, .ref r0), (2, .int (nI i))] := hl
  have ih_2 := ih
  refine lv_iload_n hx hb dX2_growOlder_2 rfl (lv_at hl 2 rfl) ?_
  refine lv_aload_n hx hb dX2_growOlder_3 rfl (lv_at hl 0 rfl) ?_
  refine va_get (D := D) (ci := 2) (v := .int (nI n)) (C := RX2) (T := TX2) (N := 11) hx hb hg us_X2 hown hK.1 hP 0 rfl rfl 2 (by decide) (hg _ gm_68) (fun _ h9 => h9) f2 dX2_growOlder_4 ?_
  refine nv_icmp_ge (tgt := 37) hx hb dX2_growOlder_7 (by omega) (by omega) (by decide) (fun c_7 => ?_) (fun c_7 => ?_)
  · skip
    subst hAe
    exact wr_v (w1 := fun (_ : Unit) => [(x0, .inr (2, fs)), (k0, .inr (1, [.ref k1])), (k1, .inl (cI, 6, .inl kd)), (r0, .inr (1, [.ref r1])), (r1, .inl (cI, 6, .inl (groF kd ag n)))]) hx hb hr hlocks hS () (by rw [show i = n by omega] at hP; exact hP) dX2_growOlder_37 trivial
  · skip
    refine lv_aload_n hx hb dX2_growOlder_10 rfl (lv_at hl 1 rfl) ?_
    refine lv_iload_n hx hb dX2_growOlder_11 rfl (lv_at hl 2 rfl) ?_
    refine lv_aload_n hx hb dX2_growOlder_12 rfl (lv_at hl 0 rfl) ?_
    refine va_get (D := D) (ci := 2) (v := .ref k0) (C := RX2) (T := TX2) (N := 11) hx hb hg us_X2 hown hK.1 hP 0 rfl rfl 4 (by decide) (hg _ gm_70) (fun _ h9 => h9) f4 dX2_growOlder_13 ?_
    refine lv_iload_n hx hb dX2_growOlder_16 rfl (lv_at hl 2 rfl) ?_
    have hP_1 := hP.sub (ws' := [(k0, .inr (1, [.ref k1])), (k1, .inl (cI, 6, .inl kd))]) [1, 2] rfl
    refine rdV (As := [.int (nI i)]) (rest := [.int (nI i), .ref r0]) hx hb hml hown hg (c_X1_at l D cI cB aS k0 k1 6 kd i (by first | assumption | omega) (by first | assumption | omega)) gm_95 vf_X1_at ⟨Nat.le_of_ble_eq_true rfl, Nat.le_of_ble_eq_true rfl⟩ ⟨rfl, rfl⟩ ⟨Nat.zero_le _, Nat.zero_le _⟩ (RP.preV hK hP_1 (q0 := 0) (ci := 1) rfl rfl) rfl hl.1 rfl (Nat.le_of_ble_eq_true rfl) dX2_growOlder_17 ?_
    refine lv_aload_n hx hb dX2_growOlder_20 rfl (lv_at hl 1 rfl) ?_
    refine lv_iload_n hx hb dX2_growOlder_21 rfl (lv_at hl 2 rfl) ?_
    have hP_2 := hP.sub (ws' := [(r0, .inr (1, [.ref r1])), (r1, .inl (cI, 6, .inl (groF kd ag i)))]) [3, 4] rfl
    refine rdV (As := [.int (nI i)]) (rest := [.int (kd i), .int (nI i), .ref r0]) hx hb hml hown hg (c_X1_at l D cI cB aS r0 r1 6 (groF kd ag i) i (by first | assumption | omega) (by first | assumption | omega)) gm_95 vf_X1_at ⟨Nat.le_of_ble_eq_true rfl, Nat.le_of_ble_eq_true rfl⟩ ⟨rfl, rfl⟩ ⟨Nat.zero_le _, Nat.zero_le _⟩ (RP.preV hK hP_2 (q0 := 0) (ci := 1) rfl rfl) rfl hl.1 rfl (Nat.le_of_ble_eq_true rfl) dX2_growOlder_22 ?_
    refine rdS (As := [.int (kd i), .int ((groF kd ag i) i)]) (rest := [.int (nI i), .ref r0]) hx hb hml hown hg (c_X2_ageNextDay l D cI cB aS (kd i) ((groF kd ag i) i)) gm_157 sf_X2_ageNextDay ⟨Nat.le_of_ble_eq_true rfl, Nat.le_of_ble_eq_true rfl⟩ ⟨rfl, rfl⟩ ⟨Nat.zero_le _, Nat.zero_le _⟩ (RP.preS hK (fun k q h => by simp at h)) rfl hl.1 rfl (Nat.le_of_ble_eq_true rfl) dX2_growOlder_25 ?_
    have hP_3 := hP.sub (ws' := [(r0, .inr (1, [.ref r1])), (r1, .inl (cI, 6, .inl (groF kd ag i)))]) [3, 4] rfl
    have hC_4 : ([3, 4] : List Nat).map (fun q_ => ([(x0, .inr (2, fs)), (k0, .inr (1, [.ref k1])), (k1, .inl (cI, 6, .inl kd)), (r0, .inr (1, [.ref r1])), (r1, .inl (cI, 6, .inl (groF kd ag i)))] : va_W)[q_]?) = List.map some ([(r0, .inr (1, [.ref r1])), (r1, .inl (cI, 6, .inl (groF kd ag i)))] : va_W) := rfl
    have hDc_4 : va_D (fun _ => True) [(r0, .inr (1, [.ref r1])), (r1, .inl (cI, 6, .inl (groF kd ag i)))] := (hD.sub (ws' := [(r0, .inr (1, [.ref r1])), (r1, .inl (cI, 6, .inl (groF kd ag i)))]) [3, 4] (by decide) hC_4).weaken (fun _ _ _ _ => trivial)
    refine wrVv (As := [.int (nI i), .int (nxF (kd i) ((groF kd ag i) i))]) (rest := []) hx hb hml hown hg (c_X1_put l D cI cB aS r0 r1 6 (groF kd ag i) i (nxF (kd i) ((groF kd ag i) i)) hDc_4 (by first | assumption | omega) (by first | assumption | omega)) gm_137 vf_X1_put ⟨Nat.le_of_ble_eq_true rfl, Nat.le_of_ble_eq_true rfl⟩ ⟨rfl, rfl⟩ ⟨Nat.zero_le _, Nat.zero_le _⟩ (RP.preV hK hP_3 (q0 := 0) (ci := 1) rfl rfl) rfl hl.1 rfl (Nat.le_of_ble_eq_true rfl) dX2_growOlder_28 hS (inW_sub hD [3, 4] hC_4) (fun u_5 H1 locs hpo_5 hP1 hk1 hS => ?_)
    have hP : va_P D vwCl ([(x0, .inr (2, fs)), (k0, .inr (1, [.ref k1])), (k1, .inl (cI, 6, .inl kd)), (r0, .inr (1, [.ref r1])), (r1, .inl (cI, 6, .inl (upd (groF kd ag i) i (nxF (kd i) ((groF kd ag i) i)))))]) H1 := wjoin (wc := [(r0, .inr (1, [.ref r1])), (r1, .inl (cI, 6, .inl (groF kd ag i)))]) (w1 := [(r0, .inr (1, [.ref r1])), (r1, .inl (cI, 6, .inl (upd (groF kd ag i) i (nxF (kd i) ((groF kd ag i) i)))))]) hP hD [3, 4] hC_4 rfl hP1 hk1
    have hD : va_D A ([(x0, .inr (2, fs)), (k0, .inr (1, [.ref k1])), (k1, .inl (cI, 6, .inl kd)), (r0, .inr (1, [.ref r1])), (r1, .inl (cI, 6, .inl (upd (groF kd ag i) i (nxF (kd i) ((groF kd ag i) i)))))]) := hD.addr rfl
    clear hP1 hk1
    generalize H1 = H at hP hS ⊢
    have e_6 : upd (groF kd ag i) i (nxF (kd i) ((groF kd ag i) i)) = groF kd ag (i + 1) := gro_s (by rw [gro_at])
    rw [e_6] at hP hD
    have hP : va_P D vwCl ([(x0, .inr (2, fs)), (k0, .inr (1, [.ref k1])), (k1, .inl (cI, 6, .inl kd)), (r0, .inr (1, [.ref r1])), (r1, .inl (cI, 6, .inl (groF kd ag (i + 1))))]) H := hP
    have hD : va_D A ([(x0, .inr (2, fs)), (k0, .inr (1, [.ref k1])), (k1, .inl (cI, 6, .inl kd)), (r0, .inr (1, [.ref r1])), (r1, .inl (cI, 6, .inl (groF kd ag (i + 1))))]) := hD
    refine lv_iinc (v := (nI (i + 1))) (lv' := [(2, .int (nI (i + 1))), (0, .ref x0), (1, .ref r0)]) hx hb dX2_growOlder_31 hl (k := 2) rfl (nI_i1 _) (by decide) rfl (fun ls hl => ?_)
    refine lv_goto (tgt := 2) hx hb dX2_growOlder_34 (by decide) ?_
    exact ih_2 () _ _ _ (by omega) (trivial) (lv_sub hl [1, 2, 0] rfl) hP (hD.addr rfl) hS
abbrev rm_X2_numberAt : Room := { frames := 1, cells := 0, slots := 0, locals := 21 }
theorem sf_X2_numberOf : sfacts RX2 yX2_numberOf cX2_numberOf 2 (some .int) 2 := ⟨⟨rfl, by decide +kernel, by decide +kernel, by decide +kernel⟩, gm_106, gm_2, gm_107⟩
set_option maxRecDepth 100000 in
set_option maxHeartbeats 4000000 in
theorem c_X2_numberAt (l : Launch) (D : va_G) (cI cB : ClassId) (aS : Nat) (x0 k0 k1 r0 r1 n : Nat) (fs : List Value) (kd ag : Nat → Int32) (h : Nat) (f2 : fs[2]? = some (.int (nI n))) (f4 : fs[4]? = some (.ref k0)) (qh : h < n) (hn6 : n ≤ 6) : Met l yX2_numberAt (mw yX2_numberAt cX2_numberAt 3 (some .int)) rm_X2_numberAt (RP D cI cB aS ([(x0, .inr (2, fs)), (k0, .inr (1, [.ref k1])), (k1, .inl (cI, 6, .inl kd)), (r0, .inr (1, [.ref r1])), (r1, .inl (cI, 6, .inl ag))]) [.ref x0, .ref r0, .int (nI h)]) (vp_Si (fun r => r = (nmF kd ag h))) 0 0 (fun _ => False) := by
  refine met_of (by decide) (Nat.le_of_ble_eq_true rfl) ?_
  intro p e s m below meth c ls hx hb hr hml hown hg hlocks hin hK hP hl
  have hown : s.vm.findClass RX2 = some m.cls := hown
  have hl : lv_has ls 3 [(0, .ref x0), (1, .ref r0), (2, .int (nI h))] := hl
  refine lv_aload_n hx hb dX2_numberAt_0 rfl (lv_at hl 0 rfl) ?_
  refine va_get (D := D) (ci := 2) (v := .ref k0) (C := RX2) (T := TX2) (N := 11) hx hb hg us_X2 hown hK.1 hP 0 rfl rfl 4 (by decide) (hg _ gm_70) (fun _ h9 => h9) f4 dX2_numberAt_1 ?_
  refine lv_iload_n hx hb dX2_numberAt_4 rfl (lv_at hl 2 rfl) ?_
  have hP_1 := hP.sub (ws' := [(k0, .inr (1, [.ref k1])), (k1, .inl (cI, 6, .inl kd))]) [1, 2] rfl
  refine rdV (As := [.int (nI h)]) (rest := []) hx hb hml hown hg (c_X1_at l D cI cB aS k0 k1 6 kd h (by first | assumption | omega) (by first | assumption | omega)) gm_95 vf_X1_at ⟨Nat.le_of_ble_eq_true rfl, Nat.le_of_ble_eq_true rfl⟩ ⟨rfl, rfl⟩ ⟨Nat.zero_le _, Nat.zero_le _⟩ (RP.preV hK hP_1 (q0 := 0) (ci := 1) rfl rfl) rfl hl.1 rfl (Nat.le_of_ble_eq_true rfl) dX2_numberAt_5 ?_
  refine lv_aload_n hx hb dX2_numberAt_8 rfl (lv_at hl 1 rfl) ?_
  refine lv_iload_n hx hb dX2_numberAt_9 rfl (lv_at hl 2 rfl) ?_
  have hP_2 := hP.sub (ws' := [(r0, .inr (1, [.ref r1])), (r1, .inl (cI, 6, .inl ag))]) [3, 4] rfl
  refine rdV (As := [.int (nI h)]) (rest := [.int (kd h)]) hx hb hml hown hg (c_X1_at l D cI cB aS r0 r1 6 ag h (by first | assumption | omega) (by first | assumption | omega)) gm_95 vf_X1_at ⟨Nat.le_of_ble_eq_true rfl, Nat.le_of_ble_eq_true rfl⟩ ⟨rfl, rfl⟩ ⟨Nat.zero_le _, Nat.zero_le _⟩ (RP.preV hK hP_2 (q0 := 0) (ci := 1) rfl rfl) rfl hl.1 rfl (Nat.le_of_ble_eq_true rfl) dX2_numberAt_10 ?_
  refine rdS (As := [.int (kd h), .int (ag h)]) (rest := []) hx hb hml hown hg (c_X2_numberOf l D cI cB aS (kd h) (ag h)) gm_105 sf_X2_numberOf ⟨Nat.le_of_ble_eq_true rfl, Nat.le_of_ble_eq_true rfl⟩ ⟨rfl, rfl⟩ ⟨Nat.zero_le _, Nat.zero_le _⟩ (RP.preS hK (fun k q h => by simp at h)) rfl hl.1 rfl (Nat.le_of_ble_eq_true rfl) dX2_numberAt_13 ?_
  exact rr_i hx hb hr hlocks dX2_numberAt_16 rfl
abbrev rm_X2_allNumbers : Room := { frames := 2, cells := 0, slots := 0, locals := 43 }
theorem vf_X2_numberAt : vfacts RX2 yX2_numberAt cX2_numberAt 3 (some .int) 2 := ⟨⟨rfl, by decide +kernel, by decide +kernel, by decide +kernel⟩, gm_103, gm_358, gm_2, gm_104⟩
set_option maxRecDepth 100000 in
set_option maxHeartbeats 4000000 in
theorem c_X2_allNumbers (l : Launch) (D : va_G) (cI cB : ClassId) (aS : Nat) (x0 k0 k1 r0 r1 n : Nat) (fs : List Value) (kd ag : Nat → Int32)  (f2 : fs[2]? = some (.int (nI n))) (f4 : fs[4]? = some (.ref k0)) (hn6 : n ≤ 6) : Met l yX2_allNumbers (mw yX2_allNumbers cX2_allNumbers 4 (some .int)) rm_X2_allNumbers (RP D cI cB aS ([(x0, .inr (2, fs)), (k0, .inr (1, [.ref k1])), (k1, .inl (cI, 6, .inl kd)), (r0, .inr (1, [.ref r1])), (r1, .inl (cI, 6, .inl ag))]) [.ref x0, .ref r0]) (vp_Si (fun r => r = (sm (nmF kd ag) n))) 0 0 (fun _ => False) := by
  refine met_of (by decide) (Nat.le_of_ble_eq_true rfl) ?_
  intro p e s m below meth c ls hx hb hr hml hown hg hlocks hin hK hP hl
  have hown : s.vm.findClass RX2 = some m.cls := hown
  have hl : lv_has ls 4 [(0, .ref x0), (1, .ref r0)] := hl
  refine lv_iconst (v := (nI 0)) hx hb dX2_allNumbers_0 (by decide) ?_
  refine lv_istore_n (lv' := [(2, .int (nI 0)), (0, .ref x0), (1, .ref r0)]) hx hb dX2_allNumbers_1 rfl hl (by decide) rfl (fun ls hl => ?_)
  refine lv_iconst (v := (nI 0)) hx hb dX2_allNumbers_2 (by decide) ?_
  refine lv_istore_n (lv' := [(3, .int (nI 0)), (2, .int (nI 0)), (0, .ref x0), (1, .ref r0)]) hx hb dX2_allNumbers_3 rfl hl (by decide) rfl (fun ls hl => ?_)
  -- loop at 4
  refine loopR (nL := 4) (B := n) (I := fun i => True) (lv := fun i => [(0, .ref x0), (1, .ref r0), (2, .int (sm (nmF kd ag) i)), (3, .int (nI i))]) 0 (Nat.zero_le _) (trivial) (by show lv_has ls 4 [(0, .ref x0), (1, .ref r0), (2, .int (sm (nmF kd ag) 0)), (3, .int (nI 0))]; exact lv_sub hl [2, 3, 1, 0] rfl) (fun i ls hj hI hl ih => ?_)
  have hl : lv_has ls 4 [(0, .ref x0), (1, .ref r0), (2, .int (sm (nmF kd ag) i)), (3, .int (nI i))] := hl
  have ih_4 := ih
  refine lv_iload_n hx hb dX2_allNumbers_4 rfl (lv_at hl 3 rfl) ?_
  refine lv_aload_n hx hb dX2_allNumbers_5 rfl (lv_at hl 0 rfl) ?_
  refine va_get (D := D) (ci := 2) (v := .int (nI n)) (C := RX2) (T := TX2) (N := 11) hx hb hg us_X2 hown hK.1 hP 0 rfl rfl 2 (by decide) (hg _ gm_68) (fun _ h9 => h9) f2 dX2_allNumbers_6 ?_
  refine nv_icmp_ge (tgt := 27) hx hb dX2_allNumbers_9 (by omega) (by omega) (by decide) (fun c_9 => ?_) (fun c_9 => ?_)
  · skip
    refine lv_iload_n hx hb dX2_allNumbers_27 rfl (lv_at hl 2 rfl) ?_
    exact rr_i hx hb hr hlocks dX2_allNumbers_28 (by rw [show i = n by omega])
  · skip
    refine lv_iload_n hx hb dX2_allNumbers_12 rfl (lv_at hl 2 rfl) ?_
    refine lv_aload_n hx hb dX2_allNumbers_13 rfl (lv_at hl 0 rfl) ?_
    refine lv_aload_n hx hb dX2_allNumbers_14 rfl (lv_at hl 1 rfl) ?_
    refine lv_iload_n hx hb dX2_allNumbers_15 rfl (lv_at hl 3 rfl) ?_
    refine rdV (As := [.ref r0, .int (nI i)]) (rest := [.int (sm (nmF kd ag) i)]) hx hb hml hown hg (c_X2_numberAt l D cI cB aS x0 k0 k1 r0 r1 n fs kd ag i f2 f4 (by first | assumption | omega) (by first | assumption | omega)) gm_102 vf_X2_numberAt ⟨Nat.le_of_ble_eq_true rfl, Nat.le_of_ble_eq_true rfl⟩ ⟨rfl, rfl⟩ ⟨Nat.zero_le _, Nat.zero_le _⟩ (RP.preV hK hP (q0 := 0) (ci := 2) rfl rfl) rfl hl.1 rfl (Nat.le_of_ble_eq_true rfl) dX2_allNumbers_16 ?_
    refine lv_iadd hx hb dX2_allNumbers_19 ?_
    refine lv_istore_n (lv' := [(2, .int ((sm (nmF kd ag) i) + (nmF kd ag i))), (0, .ref x0), (1, .ref r0), (3, .int (nI i))]) hx hb dX2_allNumbers_20 rfl hl (by decide) rfl (fun ls hl => ?_)
    refine lv_iinc (v := (nI (i + 1))) (lv' := [(3, .int (nI (i + 1))), (2, .int ((sm (nmF kd ag) i) + (nmF kd ag i))), (0, .ref x0), (1, .ref r0)]) hx hb dX2_allNumbers_21 hl (k := 3) rfl (nI_i1 _) (by decide) rfl (fun ls hl => ?_)
    refine lv_goto (tgt := 4) hx hb dX2_allNumbers_24 (by decide) ?_
    exact ih_4 _ (by omega) (trivial) (by show lv_has ls 4 [(0, .ref x0), (1, .ref r0), (2, .int (sm (nmF kd ag) (i + 1))), (3, .int (nI (i + 1)))]; rw [show (sm (nmF kd ag) (i + 1)) = (sm (nmF kd ag) i) + (nmF kd ag i) from rfl]; exact lv_sub hl [2, 3, 1, 0] rfl)
abbrev rm_X2_turnInWalk : Room := { frames := 2, cells := 0, slots := 0, locals := 43 }
set_option maxRecDepth 100000 in
set_option maxHeartbeats 4000000 in
theorem c_X2_turnInWalk (l : Launch) (D : va_G) (cI cB : ClassId) (aS : Nat) (x0 k0 k1 r0 r1 n : Nat) (fs : List Value) (kd ag : Nat → Int32) (h : Nat) (f2 : fs[2]? = some (.int (nI n))) (f4 : fs[4]? = some (.ref k0)) (qh : h < n) (hn6 : n ≤ 6) : Met l yX2_turnInWalk (mw yX2_turnInWalk cX2_turnInWalk 7 (some .int)) rm_X2_turnInWalk (RP D cI cB aS ([(x0, .inr (2, fs)), (k0, .inr (1, [.ref k1])), (k1, .inl (cI, 6, .inl kd)), (r0, .inr (1, [.ref r1])), (r1, .inl (cI, 6, .inl ag))]) [.ref x0, .ref r0, .int (nI h)]) (vp_Si (fun r => r = (nI (ordF n (nmF kd ag) h)))) 0 0 (fun _ => False) := by
  refine met_of (by decide) (Nat.le_of_ble_eq_true rfl) ?_
  intro p e s m below meth c ls hx hb hr hml hown hg hlocks hin hK hP hl
  have hown : s.vm.findClass RX2 = some m.cls := hown
  have hl : lv_has ls 7 [(0, .ref x0), (1, .ref r0), (2, .int (nI h))] := hl
  refine lv_aload_n hx hb dX2_turnInWalk_0 rfl (lv_at hl 0 rfl) ?_
  refine lv_aload_n hx hb dX2_turnInWalk_1 rfl (lv_at hl 1 rfl) ?_
  refine lv_iload_n hx hb dX2_turnInWalk_2 rfl (lv_at hl 2 rfl) ?_
  refine rdV (As := [.ref r0, .int (nI h)]) (rest := []) hx hb hml hown hg (c_X2_numberAt l D cI cB aS x0 k0 k1 r0 r1 n fs kd ag h f2 f4 (by first | assumption | omega) (by first | assumption | omega)) gm_102 vf_X2_numberAt ⟨Nat.le_of_ble_eq_true rfl, Nat.le_of_ble_eq_true rfl⟩ ⟨rfl, rfl⟩ ⟨Nat.zero_le _, Nat.zero_le _⟩ (RP.preV hK hP (q0 := 0) (ci := 2) rfl rfl) rfl hl.1 rfl (Nat.le_of_ble_eq_true rfl) dX2_turnInWalk_3 ?_
  refine lv_istore_n (lv' := [(3, .int (nmF kd ag h)), (0, .ref x0), (1, .ref r0), (2, .int (nI h))]) hx hb dX2_turnInWalk_6 rfl hl (by decide) rfl (fun ls hl => ?_)
  refine lv_iconst (v := (nI 0)) hx hb dX2_turnInWalk_7 (by decide) ?_
  refine lv_istore (lv' := [(4, .int (nI 0)), (3, .int (nmF kd ag h)), (0, .ref x0), (1, .ref r0), (2, .int (nI h))]) hx hb dX2_turnInWalk_8 hl (by decide) rfl (fun ls hl => ?_)
  refine lv_iconst (v := (nI 0)) hx hb dX2_turnInWalk_10 (by decide) ?_
  refine lv_istore (lv' := [(5, .int (nI 0)), (4, .int (nI 0)), (3, .int (nmF kd ag h)), (0, .ref x0), (1, .ref r0), (2, .int (nI h))]) hx hb dX2_turnInWalk_11 hl (by decide) rfl (fun ls hl => ?_)
  -- loop at 13
  refine loopR (nL := 7) (B := n) (I := fun i => True) (lv := fun i => [(0, .ref x0), (1, .ref r0), (2, .int (nI h)), (3, .int (nmF kd ag h)), (4, .int (nI (cn (ordP (nmF kd ag) h) i))), (5, .int (nI i))]) 0 (Nat.zero_le _) (trivial) (by show lv_has ls 7 [(0, .ref x0), (1, .ref r0), (2, .int (nI h)), (3, .int (nmF kd ag h)), (4, .int (nI (cn (ordP (nmF kd ag) h) 0))), (5, .int (nI 0))]; exact lv_sub hl [3, 4, 5, 2, 1, 0] rfl) (fun i ls hj hI hl ih => ?_)
  have hl : lv_has ls 7 [(0, .ref x0), (1, .ref r0), (2, .int (nI h)), (3, .int (nmF kd ag h)), (4, .int (nI (cn (ordP (nmF kd ag) h) i))), (5, .int (nI i))] := hl
  have ih_13 := ih
  refine lv_iload hx hb dX2_turnInWalk_13 (lv_at hl 5 rfl) ?_
  refine lv_aload_n hx hb dX2_turnInWalk_15 rfl (lv_at hl 0 rfl) ?_
  refine va_get (D := D) (ci := 2) (v := .int (nI n)) (C := RX2) (T := TX2) (N := 11) hx hb hg us_X2 hown hK.1 hP 0 rfl rfl 2 (by decide) (hg _ gm_68) (fun _ h9 => h9) f2 dX2_turnInWalk_16 ?_
  refine nv_icmp_ge (tgt := 58) hx hb dX2_turnInWalk_19 (by omega) (by omega) (by decide) (fun c_19 => ?_) (fun c_19 => ?_)
  · skip
    refine lv_iload hx hb dX2_turnInWalk_58 (lv_at hl 4 rfl) ?_
    exact rr_i hx hb hr hlocks dX2_turnInWalk_60 (by rw [show i = n by omega]; rfl)
  · skip
    refine lv_aload_n hx hb dX2_turnInWalk_22 rfl (lv_at hl 0 rfl) ?_
    refine lv_aload_n hx hb dX2_turnInWalk_23 rfl (lv_at hl 1 rfl) ?_
    refine lv_iload hx hb dX2_turnInWalk_24 (lv_at hl 5 rfl) ?_
    refine rdV (As := [.ref r0, .int (nI i)]) (rest := []) hx hb hml hown hg (c_X2_numberAt l D cI cB aS x0 k0 k1 r0 r1 n fs kd ag i f2 f4 (by first | assumption | omega) (by first | assumption | omega)) gm_102 vf_X2_numberAt ⟨Nat.le_of_ble_eq_true rfl, Nat.le_of_ble_eq_true rfl⟩ ⟨rfl, rfl⟩ ⟨Nat.zero_le _, Nat.zero_le _⟩ (RP.preV hK hP (q0 := 0) (ci := 2) rfl rfl) rfl hl.1 rfl (Nat.le_of_ble_eq_true rfl) dX2_turnInWalk_26 ?_
    refine lv_istore (lv' := [(6, .int (nmF kd ag i)), (0, .ref x0), (1, .ref r0), (2, .int (nI h)), (3, .int (nmF kd ag h)), (4, .int (nI (cn (ordP (nmF kd ag) h) i))), (5, .int (nI i))]) hx hb dX2_turnInWalk_29 hl (by decide) rfl (fun ls hl => ?_)
    refine lv_iload hx hb dX2_turnInWalk_31 (lv_at hl 0 rfl) ?_
    refine lv_iload_n hx hb dX2_turnInWalk_33 rfl (lv_at hl 4 rfl) ?_
    refine lv_icmp_lt (tgt := 49) hx hb dX2_turnInWalk_34 (by decide) (fun c_34 => ?_) (fun c_34 => ?_)
    · skip
      refine lv_iinc (v := (nI (cn (ordP (nmF kd ag) h) i + 1))) (lv' := [(4, .int (nI (cn (ordP (nmF kd ag) h) i + 1))), (6, .int (nmF kd ag i)), (0, .ref x0), (1, .ref r0), (2, .int (nI h)), (3, .int (nmF kd ag h)), (5, .int (nI i))]) hx hb dX2_turnInWalk_49 hl (k := 5) rfl (nI_i1 _) (by decide) rfl (fun ls hl => ?_)
      refine lv_iinc (v := (nI (i + 1))) (lv' := [(5, .int (nI (i + 1))), (4, .int (nI (cn (ordP (nmF kd ag) h) i + 1))), (6, .int (nmF kd ag i)), (0, .ref x0), (1, .ref r0), (2, .int (nI h)), (3, .int (nmF kd ag h))]) hx hb dX2_turnInWalk_52 hl (k := 6) rfl (nI_i1 _) (by decide) rfl (fun ls hl => ?_)
      refine lv_goto (tgt := 13) hx hb dX2_turnInWalk_55 (by decide) ?_
      exact ih_13 _ (by omega) (trivial) (by show lv_has ls 7 [(0, .ref x0), (1, .ref r0), (2, .int (nI h)), (3, .int (nmF kd ag h)), (4, .int (nI (cn (ordP (nmF kd ag) h) (i + 1)))), (5, .int (nI (i + 1)))]; rw [show (cn (ordP (nmF kd ag) h) (i + 1)) = cn (ordP (nmF kd ag) h) i + 1 from cn_t (decide_eq_true (Or.inl c_34))]; exact lv_sub hl [3, 4, 5, 6, 1, 0] rfl)
    · skip
      refine lv_iload hx hb dX2_turnInWalk_37 (lv_at hl 0 rfl) ?_
      refine lv_iload_n hx hb dX2_turnInWalk_39 rfl (lv_at hl 4 rfl) ?_
      refine lv_icmp_ne (tgt := 52) hx hb dX2_turnInWalk_40 (by decide) (fun c_40 => ?_) (fun c_40 => ?_)
      · skip
        refine lv_iinc (v := (nI (i + 1))) (lv' := [(5, .int (nI (i + 1))), (6, .int (nmF kd ag i)), (0, .ref x0), (1, .ref r0), (2, .int (nI h)), (3, .int (nmF kd ag h)), (4, .int (nI (cn (ordP (nmF kd ag) h) i)))]) hx hb dX2_turnInWalk_52 hl (k := 6) rfl (nI_i1 _) (by decide) rfl (fun ls hl => ?_)
        refine lv_goto (tgt := 13) hx hb dX2_turnInWalk_55 (by decide) ?_
        exact ih_13 _ (by omega) (trivial) (by show lv_has ls 7 [(0, .ref x0), (1, .ref r0), (2, .int (nI h)), (3, .int (nmF kd ag h)), (4, .int (nI (cn (ordP (nmF kd ag) h) (i + 1)))), (5, .int (nI (i + 1)))]; rw [show (cn (ordP (nmF kd ag) h) (i + 1)) = cn (ordP (nmF kd ag) h) i from cn_f (decide_eq_false (fun q => q.elim c_34 (fun q => c_40 q.1)))]; exact lv_sub hl [2, 3, 4, 5, 6, 0] rfl)
      · skip
        refine lv_iload hx hb dX2_turnInWalk_43 (lv_at hl 6 rfl) ?_
        refine lv_iload_n hx hb dX2_turnInWalk_45 rfl (lv_at hl 3 rfl) ?_
        refine nv_icmp_ge (tgt := 52) hx hb dX2_turnInWalk_46 (by omega) (by omega) (by decide) (fun c_46 => ?_) (fun c_46 => ?_)
        · skip
          refine lv_iinc (v := (nI (i + 1))) (lv' := [(5, .int (nI (i + 1))), (6, .int (nmF kd ag i)), (0, .ref x0), (1, .ref r0), (2, .int (nI h)), (3, .int (nmF kd ag h)), (4, .int (nI (cn (ordP (nmF kd ag) h) i)))]) hx hb dX2_turnInWalk_52 hl (k := 6) rfl (nI_i1 _) (by decide) rfl (fun ls hl => ?_)
          refine lv_goto (tgt := 13) hx hb dX2_turnInWalk_55 (by decide) ?_
          exact ih_13 _ (by omega) (trivial) (by show lv_has ls 7 [(0, .ref x0), (1, .ref r0), (2, .int (nI h)), (3, .int (nmF kd ag h)), (4, .int (nI (cn (ordP (nmF kd ag) h) (i + 1)))), (5, .int (nI (i + 1)))]; rw [show (cn (ordP (nmF kd ag) h) (i + 1)) = cn (ordP (nmF kd ag) h) i from cn_f (decide_eq_false (fun q => q.elim c_34 (fun q => absurd q.2 (by omega))))]; exact lv_sub hl [2, 3, 4, 5, 6, 0] rfl)
        · skip
          refine lv_iinc (v := (nI (cn (ordP (nmF kd ag) h) i + 1))) (lv' := [(4, .int (nI (cn (ordP (nmF kd ag) h) i + 1))), (6, .int (nmF kd ag i)), (0, .ref x0), (1, .ref r0), (2, .int (nI h)), (3, .int (nmF kd ag h)), (5, .int (nI i))]) hx hb dX2_turnInWalk_49 hl (k := 5) rfl (nI_i1 _) (by decide) rfl (fun ls hl => ?_)
          refine lv_iinc (v := (nI (i + 1))) (lv' := [(5, .int (nI (i + 1))), (4, .int (nI (cn (ordP (nmF kd ag) h) i + 1))), (6, .int (nmF kd ag i)), (0, .ref x0), (1, .ref r0), (2, .int (nI h)), (3, .int (nmF kd ag h))]) hx hb dX2_turnInWalk_52 hl (k := 6) rfl (nI_i1 _) (by decide) rfl (fun ls hl => ?_)
          refine lv_goto (tgt := 13) hx hb dX2_turnInWalk_55 (by decide) ?_
          exact ih_13 _ (by omega) (trivial) (by show lv_has ls 7 [(0, .ref x0), (1, .ref r0), (2, .int (nI h)), (3, .int (nmF kd ag h)), (4, .int (nI (cn (ordP (nmF kd ag) h) (i + 1)))), (5, .int (nI (i + 1)))]; rw [show (cn (ordP (nmF kd ag) h) (i + 1)) = cn (ordP (nmF kd ag) h) i + 1 from cn_t (decide_eq_true (Or.inr ⟨c_40, c_46⟩))]; exact lv_sub hl [3, 4, 5, 6, 1, 0] rfl)
abbrev rm_X2_houseOfTurn : Room := { frames := 3, cells := 0, slots := 0, locals := 69 }
theorem vf_X2_turnInWalk : vfacts RX2 yX2_turnInWalk cX2_turnInWalk 7 (some .int) 2 := ⟨⟨rfl, by decide +kernel, by decide +kernel, by decide +kernel⟩, gm_121, gm_362, gm_2, gm_122⟩
set_option maxRecDepth 100000 in
set_option maxHeartbeats 4000000 in
theorem c_X2_houseOfTurn (l : Launch) (D : va_G) (cI cB : ClassId) (aS : Nat) (x0 k0 k1 r0 r1 n : Nat) (fs : List Value) (kd ag : Nat → Int32) (t : Nat) (f2 : fs[2]? = some (.int (nI n))) (f4 : fs[4]? = some (.ref k0)) (qt : t ≤ n) (hn6 : n ≤ 6) : Met l yX2_houseOfTurn (mw yX2_houseOfTurn cX2_houseOfTurn 4 (some .int)) rm_X2_houseOfTurn (RP D cI cB aS ([(x0, .inr (2, fs)), (k0, .inr (1, [.ref k1])), (k1, .inl (cI, 6, .inl kd)), (r0, .inr (1, [.ref r1])), (r1, .inl (cI, 6, .inl ag))]) [.ref x0, .ref r0, .int (nI t)]) (vp_Si (fun r => r = (nI (hotF n (nmF kd ag) t n)))) 0 0 (fun _ => False) := by
  refine met_of (by decide) (Nat.le_of_ble_eq_true rfl) ?_
  intro p e s m below meth c ls hx hb hr hml hown hg hlocks hin hK hP hl
  have hown : s.vm.findClass RX2 = some m.cls := hown
  have hl : lv_has ls 4 [(0, .ref x0), (1, .ref r0), (2, .int (nI t))] := hl
  refine lv_iconst (v := (nI 0)) hx hb dX2_houseOfTurn_0 (by decide) ?_
  refine lv_istore_n (lv' := [(3, .int (nI 0)), (0, .ref x0), (1, .ref r0), (2, .int (nI t))]) hx hb dX2_houseOfTurn_1 rfl hl (by decide) rfl (fun ls hl => ?_)
  -- loop at 2
  refine loopR (nL := 4) (B := n) (I := fun i => hotF n (nmF kd ag) t (n - i) = hotF n (nmF kd ag) t n) (lv := fun i => [(0, .ref x0), (1, .ref r0), (2, .int (nI t)), (3, .int (nI i))]) 0 (Nat.zero_le _) (rfl) (lv_sub hl [1, 2, 3, 0] rfl) (fun i ls hj hI hl ih => ?_)
  have hl : lv_has ls 4 [(0, .ref x0), (1, .ref r0), (2, .int (nI t)), (3, .int (nI i))] := hl
  have hI : hotF n (nmF kd ag) t (n - i) = hotF n (nmF kd ag) t n := hI
  have ih_2 := ih
  refine lv_iload_n hx hb dX2_houseOfTurn_2 rfl (lv_at hl 3 rfl) ?_
  refine lv_aload_n hx hb dX2_houseOfTurn_3 rfl (lv_at hl 0 rfl) ?_
  refine va_get (D := D) (ci := 2) (v := .int (nI n)) (C := RX2) (T := TX2) (N := 11) hx hb hg us_X2 hown hK.1 hP 0 rfl rfl 2 (by decide) (hg _ gm_68) (fun _ h9 => h9) f2 dX2_houseOfTurn_4 ?_
  refine nv_icmp_ge (tgt := 28) hx hb dX2_houseOfTurn_7 (by omega) (by omega) (by decide) (fun c_7 => ?_) (fun c_7 => ?_)
  · skip
    refine lv_iconst (v := (nI 0)) hx hb dX2_houseOfTurn_28 (by decide) ?_
    exact rr_i hx hb hr hlocks dX2_houseOfTurn_29 (by rw [← hI, show n - i = 0 by omega]; rfl)
  · skip
    refine lv_aload_n hx hb dX2_houseOfTurn_10 rfl (lv_at hl 0 rfl) ?_
    refine lv_aload_n hx hb dX2_houseOfTurn_11 rfl (lv_at hl 1 rfl) ?_
    refine lv_iload_n hx hb dX2_houseOfTurn_12 rfl (lv_at hl 3 rfl) ?_
    refine rdV (As := [.ref r0, .int (nI i)]) (rest := []) hx hb hml hown hg (c_X2_turnInWalk l D cI cB aS x0 k0 k1 r0 r1 n fs kd ag i f2 f4 (by first | assumption | omega) (by first | assumption | omega)) gm_120 vf_X2_turnInWalk ⟨Nat.le_of_ble_eq_true rfl, Nat.le_of_ble_eq_true rfl⟩ ⟨rfl, rfl⟩ ⟨Nat.zero_le _, Nat.zero_le _⟩ (RP.preV hK hP (q0 := 0) (ci := 2) rfl rfl) rfl hl.1 rfl (Nat.le_of_ble_eq_true rfl) dX2_houseOfTurn_13 ?_
    refine lv_iload_n hx hb dX2_houseOfTurn_16 rfl (lv_at hl 2 rfl) ?_
    refine nv_icmp_ne (tgt := 22) hx hb dX2_houseOfTurn_17 (by have := ordF_le (n := n) (v := nmF kd ag) (h := i); omega) (by omega) (by decide) (fun c_17 => ?_) (fun c_17 => ?_)
    · skip
      refine lv_iinc (v := (nI (i + 1))) (lv' := [(3, .int (nI (i + 1))), (0, .ref x0), (1, .ref r0), (2, .int (nI t))]) hx hb dX2_houseOfTurn_22 hl (k := 3) rfl (nI_i1 _) (by decide) rfl (fun ls hl => ?_)
      refine lv_goto (tgt := 2) hx hb dX2_houseOfTurn_25 (by decide) ?_
      exact ih_2 _ (by omega) ((by rw [← hI, hot_s c_7, if_neg c_17])) (lv_sub hl [1, 2, 3, 0] rfl)
    · skip
      refine lv_iload_n hx hb dX2_houseOfTurn_20 rfl (lv_at hl 3 rfl) ?_
      exact rr_i hx hb hr hlocks dX2_houseOfTurn_21 (by rw [← hI, hot_s c_7, if_pos c_17])
abbrev rm_X2_lengthOfWalk : Room := { frames := 4, cells := 0, slots := 0, locals := 92 }
theorem vf_X2_houseOfTurn : vfacts RX2 yX2_houseOfTurn cX2_houseOfTurn 4 (some .int) 2 := ⟨⟨rfl, by decide +kernel, by decide +kernel, by decide +kernel⟩, gm_179, gm_368, gm_2, gm_180⟩
set_option maxRecDepth 100000 in
set_option maxHeartbeats 4000000 in
theorem c_X2_lengthOfWalk (l : Launch) (D : va_G) (cI cB : ClassId) (aS : Nat) (x0 k0 k1 r0 r1 n : Nat) (fs : List Value) (kd ag : Nat → Int32)  (f2 : fs[2]? = some (.int (nI n))) (f4 : fs[4]? = some (.ref k0)) (hn6 : n ≤ 6) : Met l yX2_lengthOfWalk (mw yX2_lengthOfWalk cX2_lengthOfWalk 6 (some .int)) rm_X2_lengthOfWalk (RP D cI cB aS ([(x0, .inr (2, fs)), (k0, .inr (1, [.ref k1])), (k1, .inl (cI, 6, .inl kd)), (r0, .inr (1, [.ref r1])), (r1, .inl (cI, 6, .inl ag))]) [.ref x0, .ref r0]) (vp_Si (fun r => r = (nI (wkF n (nmF kd ag) n)))) 0 0 (fun _ => False) := by
  refine met_of (by decide) (Nat.le_of_ble_eq_true rfl) ?_
  intro p e s m below meth c ls hx hb hr hml hown hg hlocks hin hK hP hl
  have hown : s.vm.findClass RX2 = some m.cls := hown
  have hl : lv_has ls 6 [(0, .ref x0), (1, .ref r0)] := hl
  refine lv_iconst (v := (nI 0)) hx hb dX2_lengthOfWalk_0 (by decide) ?_
  refine lv_istore_n (lv' := [(2, .int (nI 0)), (0, .ref x0), (1, .ref r0)]) hx hb dX2_lengthOfWalk_1 rfl hl (by decide) rfl (fun ls hl => ?_)
  refine lv_iconst (v := (nI 0)) hx hb dX2_lengthOfWalk_2 (by decide) ?_
  refine lv_istore_n (lv' := [(3, .int (nI 0)), (2, .int (nI 0)), (0, .ref x0), (1, .ref r0)]) hx hb dX2_lengthOfWalk_3 rfl hl (by decide) rfl (fun ls hl => ?_)
  refine lv_iconst (v := (nI 0)) hx hb dX2_lengthOfWalk_4 (by decide) ?_
  refine lv_istore (lv' := [(4, .int (nI 0)), (3, .int (nI 0)), (2, .int (nI 0)), (0, .ref x0), (1, .ref r0)]) hx hb dX2_lengthOfWalk_5 hl (by decide) rfl (fun ls hl => ?_)
  -- loop at 7
  refine loopR (nL := 6) (B := n) (I := fun t => True) (lv := fun t => [(0, .ref x0), (1, .ref r0), (2, .int (nI (wkF n (nmF kd ag) t))), (3, .int (nI (wkP n (nmF kd ag) t))), (4, .int (nI t))]) 0 (Nat.zero_le _) (trivial) (by show lv_has ls 6 [(0, .ref x0), (1, .ref r0), (2, .int (nI (wkF n (nmF kd ag) 0))), (3, .int (nI (wkP n (nmF kd ag) 0))), (4, .int (nI 0))]; exact lv_sub hl [3, 4, 2, 1, 0] rfl) (fun t ls hj hI hl ih => ?_)
  have hl : lv_has ls 6 [(0, .ref x0), (1, .ref r0), (2, .int (nI (wkF n (nmF kd ag) t))), (3, .int (nI (wkP n (nmF kd ag) t))), (4, .int (nI t))] := hl
  have ih_7 := ih
  refine lv_iload hx hb dX2_lengthOfWalk_7 (lv_at hl 4 rfl) ?_
  refine lv_aload_n hx hb dX2_lengthOfWalk_9 rfl (lv_at hl 0 rfl) ?_
  refine va_get (D := D) (ci := 2) (v := .int (nI n)) (C := RX2) (T := TX2) (N := 11) hx hb hg us_X2 hown hK.1 hP 0 rfl rfl 2 (by decide) (hg _ gm_68) (fun _ h9 => h9) f2 dX2_lengthOfWalk_10 ?_
  refine nv_icmp_ge (tgt := 44) hx hb dX2_lengthOfWalk_13 (by omega) (by omega) (by decide) (fun c_13 => ?_) (fun c_13 => ?_)
  · skip
    refine lv_iload_n hx hb dX2_lengthOfWalk_44 rfl (lv_at hl 2 rfl) ?_
    exact rr_i hx hb hr hlocks dX2_lengthOfWalk_45 (by rw [show t = n by omega])
  · skip
    refine lv_aload_n hx hb dX2_lengthOfWalk_16 rfl (lv_at hl 0 rfl) ?_
    refine lv_aload_n hx hb dX2_lengthOfWalk_17 rfl (lv_at hl 1 rfl) ?_
    refine lv_iload hx hb dX2_lengthOfWalk_18 (lv_at hl 4 rfl) ?_
    refine rdV (As := [.ref r0, .int (nI t)]) (rest := []) hx hb hml hown hg (c_X2_houseOfTurn l D cI cB aS x0 k0 k1 r0 r1 n fs kd ag t f2 f4 (by first | assumption | omega) (by first | assumption | omega)) gm_178 vf_X2_houseOfTurn ⟨Nat.le_of_ble_eq_true rfl, Nat.le_of_ble_eq_true rfl⟩ ⟨rfl, rfl⟩ ⟨Nat.zero_le _, Nat.zero_le _⟩ (RP.preV hK hP (q0 := 0) (ci := 2) rfl rfl) rfl hl.1 rfl (Nat.le_of_ble_eq_true rfl) dX2_lengthOfWalk_20 ?_
    refine lv_istore (lv' := [(5, .int (nI (hotF n (nmF kd ag) t n))), (0, .ref x0), (1, .ref r0), (2, .int (nI (wkF n (nmF kd ag) t))), (3, .int (nI (wkP n (nmF kd ag) t))), (4, .int (nI t))]) hx hb dX2_lengthOfWalk_23 hl (by decide) rfl (fun ls hl => ?_)
    refine lv_iload_n hx hb dX2_lengthOfWalk_25 rfl (lv_at hl 3 rfl) ?_
    refine lv_iload hx hb dX2_lengthOfWalk_26 (lv_at hl 0 rfl) ?_
    refine lv_iload_n hx hb dX2_lengthOfWalk_28 rfl (lv_at hl 4 rfl) ?_
    refine lv_isub hx hb dX2_lengthOfWalk_29 ?_
    refine va_mabs hx hb (hml.trans hl.1.symm) hown (hg _ gm_181) (hg _ gm_182) (hg _ gm_9) (hg _ gm_183) (Nat.le_of_ble_eq_true rfl) (Nat.le_of_ble_eq_true rfl) (Nat.zero_le _) (Nat.zero_le _) dX2_lengthOfWalk_30 ?_
    rw [show ((if 0 ≤ ((nI (hotF n (nmF kd ag) t n)) - (nI (wkP n (nmF kd ag) t))) then ((nI (hotF n (nmF kd ag) t n)) - (nI (wkP n (nmF kd ag) t))) else 0 - ((nI (hotF n (nmF kd ag) t n)) - (nI (wkP n (nmF kd ag) t)))) : Int32) = (nI (dstF (hotF n (nmF kd ag) t n) (wkP n (nmF kd ag) t))) from abs_d (by have := hot_lt (n := n) (v := (nmF kd ag)) (t := t) (k := n) (by omega) (Nat.le_refl _); omega) (by have := wkP_lt (n := n) (v := (nmF kd ag)) (t := t) (by omega); omega)]
    refine nv_iadd hx hb dX2_lengthOfWalk_33 ?_
    refine lv_istore_n (lv' := [(2, .int (nI (wkF n (nmF kd ag) t + (dstF (hotF n (nmF kd ag) t n) (wkP n (nmF kd ag) t))))), (5, .int (nI (hotF n (nmF kd ag) t n))), (0, .ref x0), (1, .ref r0), (3, .int (nI (wkP n (nmF kd ag) t))), (4, .int (nI t))]) hx hb dX2_lengthOfWalk_34 rfl hl (by decide) rfl (fun ls hl => ?_)
    refine lv_iload hx hb dX2_lengthOfWalk_35 (lv_at hl 1 rfl) ?_
    refine lv_istore_n (lv' := [(3, .int (nI (hotF n (nmF kd ag) t n))), (2, .int (nI (wkF n (nmF kd ag) t + (dstF (hotF n (nmF kd ag) t n) (wkP n (nmF kd ag) t))))), (5, .int (nI (hotF n (nmF kd ag) t n))), (0, .ref x0), (1, .ref r0), (4, .int (nI t))]) hx hb dX2_lengthOfWalk_37 rfl hl (by decide) rfl (fun ls hl => ?_)
    refine lv_iinc (v := (nI (t + 1))) (lv' := [(4, .int (nI (t + 1))), (3, .int (nI (hotF n (nmF kd ag) t n))), (2, .int (nI (wkF n (nmF kd ag) t + (dstF (hotF n (nmF kd ag) t n) (wkP n (nmF kd ag) t))))), (5, .int (nI (hotF n (nmF kd ag) t n))), (0, .ref x0), (1, .ref r0)]) hx hb dX2_lengthOfWalk_38 hl (k := 5) rfl (nI_i1 _) (by decide) rfl (fun ls hl => ?_)
    refine lv_goto (tgt := 7) hx hb dX2_lengthOfWalk_41 (by decide) ?_
    exact ih_7 _ (by omega) (trivial) (by show lv_has ls 6 [(0, .ref x0), (1, .ref r0), (2, .int (nI (wkF n (nmF kd ag) (t + 1)))), (3, .int (nI (wkP n (nmF kd ag) (t + 1)))), (4, .int (nI (t + 1)))]; rw [show (wkF n (nmF kd ag) (t + 1)) = wkF n (nmF kd ag) t + (dstF (hotF n (nmF kd ag) t n) (wkP n (nmF kd ag) t)) from rfl, show (wkP n (nmF kd ag) (t + 1)) = hotF n (nmF kd ag) t n from rfl]; exact lv_sub hl [4, 5, 2, 1, 0] rfl)
