def MW (cI cB : ClassId) (b : Nat → Nat) (st n td nd nh pl : Nat) (bs : Int32) (kd ag bo pa dm dn hh hn pg sv : Nat → Int32) (sd : Int64) (ik : Int32) (ks ktd knd knh : Nat) (kbs : Int32) (kag kbo kpa kdm kdn khh khn : Nat → Int32) (hf : Int64) : va_W := [(b 0, .inr (3, [.int (nI st), .int (nI n), .ref (b 1), .ref (b 2), .ref (b 3), .ref (b 4), .int (nI td), .int bs, .int (nI nd), .ref (b 5), .ref (b 6), .int (nI nh), .ref (b 7), .ref (b 8), .int (nI pl), .ref (b 9), .ref (b 10), .long sd, .int ik, .int (nI ks), .int (nI ktd), .int kbs, .int (nI knd), .int (nI knh), .ref (b 11), .ref (b 12), .ref (b 13), .ref (b 14), .ref (b 15), .ref (b 16), .ref (b 17), .long hf])),
  (b 1, .inl (cI, 6, .inl kd)),
  (b 2, .inl (cI, 6, .inl ag)),
  (b 3, .inl (cI, 6, .inl bo)),
  (b 4, .inl (cI, 186, .inl pa)),
  (b 5, .inl (cI, 6, .inl dm)),
  (b 6, .inl (cI, 6, .inl dn)),
  (b 7, .inl (cI, 6, .inl hh)),
  (b 8, .inl (cI, 6, .inl hn)),
  (b 9, .inl (cB, 19, .inl pg)),
  (b 10, .inl (cI, 6, .inl sv)),
  (b 11, .inl (cI, 6, .inl kag)),
  (b 12, .inl (cI, 6, .inl kbo)),
  (b 13, .inl (cI, 186, .inl kpa)),
  (b 14, .inl (cI, 6, .inl kdm)),
  (b 15, .inl (cI, 6, .inl kdn)),
  (b 16, .inl (cI, 6, .inl khh)),
  (b 17, .inl (cI, 6, .inl khn))]
def MA (b : Nat → Nat) : List Nat := [b 0, b 1, b 2, b 3, b 4, b 5, b 6, b 7, b 8, b 9, b 10, b 11, b 12, b 13, b 14, b 15, b 16, b 17]
theorem MW_addr {cI cB : ClassId} {b : Nat → Nat} {st n td nd nh pl : Nat} {bs : Int32} {kd ag bo pa dm dn hh hn pg sv : Nat → Int32} {sd : Int64} {ik : Int32} {ks ktd knd knh : Nat} {kbs : Int32} {kag kbo kpa kdm kdn khh khn : Nat → Int32} {hf : Int64} : (MW cI cB b st n td nd nh pl bs kd ag bo pa dm dn hh hn pg sv sd ik ks ktd knd knh kbs kag kbo kpa kdm kdn khh khn hf).map (fun q => q.1) = MA b := rfl
theorem MW_g0 {cI cB : ClassId} {b : Nat → Nat} {st n td nd nh pl : Nat} {bs : Int32} {kd ag bo pa dm dn hh hn pg sv : Nat → Int32} {sd : Int64} {ik : Int32} {ks ktd knd knh : Nat} {kbs : Int32} {kag kbo kpa kdm kdn khh khn : Nat → Int32} {hf : Int64} : (MW cI cB b st n td nd nh pl bs kd ag bo pa dm dn hh hn pg sv sd ik ks ktd knd knh kbs kag kbo kpa kdm kdn khh khn hf)[0]? = some (b 0, .inr (3, [.int (nI st), .int (nI n), .ref (b 1), .ref (b 2), .ref (b 3), .ref (b 4), .int (nI td), .int bs, .int (nI nd), .ref (b 5), .ref (b 6), .int (nI nh), .ref (b 7), .ref (b 8), .int (nI pl), .ref (b 9), .ref (b 10), .long sd, .int ik, .int (nI ks), .int (nI ktd), .int kbs, .int (nI knd), .int (nI knh), .ref (b 11), .ref (b 12), .ref (b 13), .ref (b 14), .ref (b 15), .ref (b 16), .ref (b 17), .long hf])) := rfl
theorem MW_g1 {cI cB : ClassId} {b : Nat → Nat} {st n td nd nh pl : Nat} {bs : Int32} {kd ag bo pa dm dn hh hn pg sv : Nat → Int32} {sd : Int64} {ik : Int32} {ks ktd knd knh : Nat} {kbs : Int32} {kag kbo kpa kdm kdn khh khn : Nat → Int32} {hf : Int64} : (MW cI cB b st n td nd nh pl bs kd ag bo pa dm dn hh hn pg sv sd ik ks ktd knd knh kbs kag kbo kpa kdm kdn khh khn hf)[1]? = some (b 1, .inl (cI, 6, .inl kd)) := rfl
theorem MW_g2 {cI cB : ClassId} {b : Nat → Nat} {st n td nd nh pl : Nat} {bs : Int32} {kd ag bo pa dm dn hh hn pg sv : Nat → Int32} {sd : Int64} {ik : Int32} {ks ktd knd knh : Nat} {kbs : Int32} {kag kbo kpa kdm kdn khh khn : Nat → Int32} {hf : Int64} : (MW cI cB b st n td nd nh pl bs kd ag bo pa dm dn hh hn pg sv sd ik ks ktd knd knh kbs kag kbo kpa kdm kdn khh khn hf)[2]? = some (b 2, .inl (cI, 6, .inl ag)) := rfl
theorem MW_g3 {cI cB : ClassId} {b : Nat → Nat} {st n td nd nh pl : Nat} {bs : Int32} {kd ag bo pa dm dn hh hn pg sv : Nat → Int32} {sd : Int64} {ik : Int32} {ks ktd knd knh : Nat} {kbs : Int32} {kag kbo kpa kdm kdn khh khn : Nat → Int32} {hf : Int64} : (MW cI cB b st n td nd nh pl bs kd ag bo pa dm dn hh hn pg sv sd ik ks ktd knd knh kbs kag kbo kpa kdm kdn khh khn hf)[3]? = some (b 3, .inl (cI, 6, .inl bo)) := rfl
theorem MW_g4 {cI cB : ClassId} {b : Nat → Nat} {st n td nd nh pl : Nat} {bs : Int32} {kd ag bo pa dm dn hh hn pg sv : Nat → Int32} {sd : Int64} {ik : Int32} {ks ktd knd knh : Nat} {kbs : Int32} {kag kbo kpa kdm kdn khh khn : Nat → Int32} {hf : Int64} : (MW cI cB b st n td nd nh pl bs kd ag bo pa dm dn hh hn pg sv sd ik ks ktd knd knh kbs kag kbo kpa kdm kdn khh khn hf)[4]? = some (b 4, .inl (cI, 186, .inl pa)) := rfl
theorem MW_g5 {cI cB : ClassId} {b : Nat → Nat} {st n td nd nh pl : Nat} {bs : Int32} {kd ag bo pa dm dn hh hn pg sv : Nat → Int32} {sd : Int64} {ik : Int32} {ks ktd knd knh : Nat} {kbs : Int32} {kag kbo kpa kdm kdn khh khn : Nat → Int32} {hf : Int64} : (MW cI cB b st n td nd nh pl bs kd ag bo pa dm dn hh hn pg sv sd ik ks ktd knd knh kbs kag kbo kpa kdm kdn khh khn hf)[5]? = some (b 5, .inl (cI, 6, .inl dm)) := rfl
theorem MW_g6 {cI cB : ClassId} {b : Nat → Nat} {st n td nd nh pl : Nat} {bs : Int32} {kd ag bo pa dm dn hh hn pg sv : Nat → Int32} {sd : Int64} {ik : Int32} {ks ktd knd knh : Nat} {kbs : Int32} {kag kbo kpa kdm kdn khh khn : Nat → Int32} {hf : Int64} : (MW cI cB b st n td nd nh pl bs kd ag bo pa dm dn hh hn pg sv sd ik ks ktd knd knh kbs kag kbo kpa kdm kdn khh khn hf)[6]? = some (b 6, .inl (cI, 6, .inl dn)) := rfl
theorem MW_g7 {cI cB : ClassId} {b : Nat → Nat} {st n td nd nh pl : Nat} {bs : Int32} {kd ag bo pa dm dn hh hn pg sv : Nat → Int32} {sd : Int64} {ik : Int32} {ks ktd knd knh : Nat} {kbs : Int32} {kag kbo kpa kdm kdn khh khn : Nat → Int32} {hf : Int64} : (MW cI cB b st n td nd nh pl bs kd ag bo pa dm dn hh hn pg sv sd ik ks ktd knd knh kbs kag kbo kpa kdm kdn khh khn hf)[7]? = some (b 7, .inl (cI, 6, .inl hh)) := rfl
theorem MW_g8 {cI cB : ClassId} {b : Nat → Nat} {st n td nd nh pl : Nat} {bs : Int32} {kd ag bo pa dm dn hh hn pg sv : Nat → Int32} {sd : Int64} {ik : Int32} {ks ktd knd knh : Nat} {kbs : Int32} {kag kbo kpa kdm kdn khh khn : Nat → Int32} {hf : Int64} : (MW cI cB b st n td nd nh pl bs kd ag bo pa dm dn hh hn pg sv sd ik ks ktd knd knh kbs kag kbo kpa kdm kdn khh khn hf)[8]? = some (b 8, .inl (cI, 6, .inl hn)) := rfl
theorem MW_g9 {cI cB : ClassId} {b : Nat → Nat} {st n td nd nh pl : Nat} {bs : Int32} {kd ag bo pa dm dn hh hn pg sv : Nat → Int32} {sd : Int64} {ik : Int32} {ks ktd knd knh : Nat} {kbs : Int32} {kag kbo kpa kdm kdn khh khn : Nat → Int32} {hf : Int64} : (MW cI cB b st n td nd nh pl bs kd ag bo pa dm dn hh hn pg sv sd ik ks ktd knd knh kbs kag kbo kpa kdm kdn khh khn hf)[9]? = some (b 9, .inl (cB, 19, .inl pg)) := rfl
theorem MW_g10 {cI cB : ClassId} {b : Nat → Nat} {st n td nd nh pl : Nat} {bs : Int32} {kd ag bo pa dm dn hh hn pg sv : Nat → Int32} {sd : Int64} {ik : Int32} {ks ktd knd knh : Nat} {kbs : Int32} {kag kbo kpa kdm kdn khh khn : Nat → Int32} {hf : Int64} : (MW cI cB b st n td nd nh pl bs kd ag bo pa dm dn hh hn pg sv sd ik ks ktd knd knh kbs kag kbo kpa kdm kdn khh khn hf)[10]? = some (b 10, .inl (cI, 6, .inl sv)) := rfl
theorem MW_g11 {cI cB : ClassId} {b : Nat → Nat} {st n td nd nh pl : Nat} {bs : Int32} {kd ag bo pa dm dn hh hn pg sv : Nat → Int32} {sd : Int64} {ik : Int32} {ks ktd knd knh : Nat} {kbs : Int32} {kag kbo kpa kdm kdn khh khn : Nat → Int32} {hf : Int64} : (MW cI cB b st n td nd nh pl bs kd ag bo pa dm dn hh hn pg sv sd ik ks ktd knd knh kbs kag kbo kpa kdm kdn khh khn hf)[11]? = some (b 11, .inl (cI, 6, .inl kag)) := rfl
theorem MW_g12 {cI cB : ClassId} {b : Nat → Nat} {st n td nd nh pl : Nat} {bs : Int32} {kd ag bo pa dm dn hh hn pg sv : Nat → Int32} {sd : Int64} {ik : Int32} {ks ktd knd knh : Nat} {kbs : Int32} {kag kbo kpa kdm kdn khh khn : Nat → Int32} {hf : Int64} : (MW cI cB b st n td nd nh pl bs kd ag bo pa dm dn hh hn pg sv sd ik ks ktd knd knh kbs kag kbo kpa kdm kdn khh khn hf)[12]? = some (b 12, .inl (cI, 6, .inl kbo)) := rfl
theorem MW_g13 {cI cB : ClassId} {b : Nat → Nat} {st n td nd nh pl : Nat} {bs : Int32} {kd ag bo pa dm dn hh hn pg sv : Nat → Int32} {sd : Int64} {ik : Int32} {ks ktd knd knh : Nat} {kbs : Int32} {kag kbo kpa kdm kdn khh khn : Nat → Int32} {hf : Int64} : (MW cI cB b st n td nd nh pl bs kd ag bo pa dm dn hh hn pg sv sd ik ks ktd knd knh kbs kag kbo kpa kdm kdn khh khn hf)[13]? = some (b 13, .inl (cI, 186, .inl kpa)) := rfl
theorem MW_g14 {cI cB : ClassId} {b : Nat → Nat} {st n td nd nh pl : Nat} {bs : Int32} {kd ag bo pa dm dn hh hn pg sv : Nat → Int32} {sd : Int64} {ik : Int32} {ks ktd knd knh : Nat} {kbs : Int32} {kag kbo kpa kdm kdn khh khn : Nat → Int32} {hf : Int64} : (MW cI cB b st n td nd nh pl bs kd ag bo pa dm dn hh hn pg sv sd ik ks ktd knd knh kbs kag kbo kpa kdm kdn khh khn hf)[14]? = some (b 14, .inl (cI, 6, .inl kdm)) := rfl
theorem MW_g15 {cI cB : ClassId} {b : Nat → Nat} {st n td nd nh pl : Nat} {bs : Int32} {kd ag bo pa dm dn hh hn pg sv : Nat → Int32} {sd : Int64} {ik : Int32} {ks ktd knd knh : Nat} {kbs : Int32} {kag kbo kpa kdm kdn khh khn : Nat → Int32} {hf : Int64} : (MW cI cB b st n td nd nh pl bs kd ag bo pa dm dn hh hn pg sv sd ik ks ktd knd knh kbs kag kbo kpa kdm kdn khh khn hf)[15]? = some (b 15, .inl (cI, 6, .inl kdn)) := rfl
theorem MW_g16 {cI cB : ClassId} {b : Nat → Nat} {st n td nd nh pl : Nat} {bs : Int32} {kd ag bo pa dm dn hh hn pg sv : Nat → Int32} {sd : Int64} {ik : Int32} {ks ktd knd knh : Nat} {kbs : Int32} {kag kbo kpa kdm kdn khh khn : Nat → Int32} {hf : Int64} : (MW cI cB b st n td nd nh pl bs kd ag bo pa dm dn hh hn pg sv sd ik ks ktd knd knh kbs kag kbo kpa kdm kdn khh khn hf)[16]? = some (b 16, .inl (cI, 6, .inl khh)) := rfl
theorem MW_g17 {cI cB : ClassId} {b : Nat → Nat} {st n td nd nh pl : Nat} {bs : Int32} {kd ag bo pa dm dn hh hn pg sv : Nat → Int32} {sd : Int64} {ik : Int32} {ks ktd knd knh : Nat} {kbs : Int32} {kag kbo kpa kdm kdn khh khn : Nat → Int32} {hf : Int64} : (MW cI cB b st n td nd nh pl bs kd ag bo pa dm dn hh hn pg sv sd ik ks ktd knd knh kbs kag kbo kpa kdm kdn khh khn hf)[17]? = some (b 17, .inl (cI, 6, .inl khn)) := rfl
abbrev rm_X3_within : Room := { frames := 0, cells := 0, slots := 0, locals := 0 }
set_option maxRecDepth 100000 in
set_option maxHeartbeats 4000000 in
theorem c_X3_within (l : Launch) (D : va_G) (cI cB : ClassId) (aS : Nat) (x lo hi : Int32)  : Met l yX3_within (mw yX3_within cX3_within 3 (some .boolean)) rm_X3_within (RP D cI cB aS ([]) [.int x, .int lo, .int hi]) (vp_Si (fun r => r = (bi (lo ≤ x ∧ x ≤ hi)))) 0 0 (fun _ => False) := by
  refine met_of (by decide) (Nat.le_of_ble_eq_true rfl) ?_
  intro p e s m below meth c ls hx hb hr hml hown hg hlocks hin hK hP hl
  have hown : s.vm.findClass RX3 = some m.cls := hown
  have hl : lv_has ls 3 [(0, .int x), (1, .int lo), (2, .int hi)] := hl
  refine lv_iload_n hx hb dX3_within_0 rfl (lv_at hl 0 rfl) ?_
  refine lv_iload_n hx hb dX3_within_1 rfl (lv_at hl 1 rfl) ?_
  refine lv_icmp_lt (tgt := 14) hx hb dX3_within_2 (by decide) (fun c_2 => ?_) (fun c_2 => ?_)
  · skip
    refine lv_iconst (v := (nI 0)) hx hb dX3_within_14 (by decide) ?_
    exact rr_z hx hb hr hlocks dX3_within_15 bi_nar (ret_f (fun h => Int32.not_lt.mpr h.1 c_2))
  · skip
    refine lv_iload_n hx hb dX3_within_5 rfl (lv_at hl 0 rfl) ?_
    refine lv_iload_n hx hb dX3_within_6 rfl (lv_at hl 2 rfl) ?_
    refine lv_icmp_gt (tgt := 14) hx hb dX3_within_7 (by decide) (fun c_7 => ?_) (fun c_7 => ?_)
    · skip
      refine lv_iconst (v := (nI 0)) hx hb dX3_within_14 (by decide) ?_
      exact rr_z hx hb hr hlocks dX3_within_15 bi_nar (ret_f (fun h => Int32.not_lt.mpr h.2 c_7))
    · skip
      refine lv_iconst (v := (nI 1)) hx hb dX3_within_10 (by decide) ?_
      refine lv_goto (tgt := 15) hx hb dX3_within_11 (by decide) ?_
      exact rr_z hx hb hr hlocks dX3_within_15 bi_nar (ret_t ⟨Int32.not_lt.mp c_2, Int32.not_lt.mp c_7⟩)
abbrev rm_X3_isIn : Room := { frames := 0, cells := 0, slots := 0, locals := 0 }
set_option maxRecDepth 100000 in
set_option maxHeartbeats 4000000 in
theorem c_X3_isIn (l : Launch) (D : va_G) (cI cB : ClassId) (aS : Nat) (set h : Nat) (q1 : set < 64) (q2 : h < 6) : Met l yX3_isIn (mw yX3_isIn cX3_isIn 2 (some .boolean)) rm_X3_isIn (RP D cI cB aS ([]) [.int (nI set), .int (nI h)]) (vp_Si (fun r => r = (bi (biS set h)))) 0 0 (fun _ => False) := by
  refine met_of (by decide) (Nat.le_of_ble_eq_true rfl) ?_
  intro p e s m below meth c ls hx hb hr hml hown hg hlocks hin hK hP hl
  have hown : s.vm.findClass RX3 = some m.cls := hown
  have hl : lv_has ls 2 [(0, .int (nI set)), (1, .int (nI h))] := hl
  refine lv_iload_n hx hb dX3_isIn_0 rfl (lv_at hl 0 rfl) ?_
  refine lv_iload_n hx hb dX3_isIn_1 rfl (lv_at hl 1 rfl) ?_
  refine lv_ishr hx hb dX3_isIn_2 ?_
  refine lv_iconst (v := (nI 1)) hx hb dX3_isIn_3 (by decide) ?_
  refine lv_iand hx hb dX3_isIn_4 ?_
  refine lv_iconst (v := (nI 1)) hx hb dX3_isIn_5 (by decide) ?_
  refine lv_icmp_ne (tgt := 13) hx hb dX3_isIn_6 (by decide) (fun c_6 => ?_) (fun c_6 => ?_)
  · skip
    refine lv_iconst (v := (nI 0)) hx hb dX3_isIn_13 (by decide) ?_
    exact rr_z hx hb hr hlocks dX3_isIn_14 bi_nar (ret_f (fun q => c_6 ((bit_is set q1 h q2).mpr q)))
  · skip
    refine lv_iconst (v := (nI 1)) hx hb dX3_isIn_9 (by decide) ?_
    refine lv_goto (tgt := 14) hx hb dX3_isIn_10 (by decide) ?_
    exact rr_z hx hb hr hlocks dX3_isIn_14 bi_nar (ret_t ((bit_is set q1 h q2).mp c_6))
abbrev rm_X3_isHouse : Room := { frames := 1, cells := 0, slots := 0, locals := 22 }
theorem sf_X3_within : sfacts RX3 yX3_within cX3_within 3 (some .boolean) 3 := ⟨⟨rfl, by decide +kernel, by decide +kernel, by decide +kernel⟩, gm_470, gm_5, gm_471⟩
set_option maxRecDepth 100000 in
set_option maxHeartbeats 4000000 in
theorem c_X3_isHouse (l : Launch) (D : va_G) (cI cB : ClassId) (aS : Nat) (b : Nat → Nat) (st n td nd nh pl : Nat) (bs : Int32) (kd ag bo pa dm dn hh hn pg sv : Nat → Int32) (sd : Int64) (ik : Int32) (ks ktd knd knh : Nat) (kbs : Int32) (kag kbo kpa kdm kdn khh khn : Nat → Int32) (hf : Int64) (x : Int32) (hn6 : n ≤ 6) : Met l yX3_isHouse (mw yX3_isHouse cX3_isHouse 2 (some .boolean)) rm_X3_isHouse (RP D cI cB aS (MW cI cB b st n td nd nh pl bs kd ag bo pa dm dn hh hn pg sv sd ik ks ktd knd knh kbs kag kbo kpa kdm kdn khh khn hf) [.ref (b 0), .int x]) (vp_Si (fun r => r = (bi (hIn n x)))) 0 0 (fun _ => False) := by
  refine met_of (by decide) (Nat.le_of_ble_eq_true rfl) ?_
  intro p e s m below meth c ls hx hb hr hml hown hg hlocks hin hK hP hl
  have hown : s.vm.findClass RX3 = some m.cls := hown
  have hl : lv_has ls 2 [(0, .ref (b 0)), (1, .int x)] := hl
  refine lv_iload_n hx hb dX3_isHouse_0 rfl (lv_at hl 1 rfl) ?_
  refine lv_iconst (v := (nI 0)) hx hb dX3_isHouse_1 (by decide) ?_
  refine lv_aload_n hx hb dX3_isHouse_2 rfl (lv_at hl 0 rfl) ?_
  refine va_get (D := D) (ci := 3) (v := .int (nI n)) (C := RX3) (T := TX3) (N := 32) hx hb hg us_X3 hown hK.1 hP 0 MW_g0 rfl 1 (by decide) (hg _ gm_402) (fun _ h9 => h9) rfl dX3_isHouse_3 ?_
  refine lv_iconst (v := (nI 1)) hx hb dX3_isHouse_6 (by decide) ?_
  refine lv_isub hx hb dX3_isHouse_7 ?_
  refine rdS (As := [.int x, .int (nI 0), .int ((nI n) - (nI 1))]) (rest := []) hx hb hml hown hg (c_X3_within l D cI cB aS x (nI 0) ((nI n) - (nI 1))) gm_469 sf_X3_within ⟨Nat.le_of_ble_eq_true rfl, Nat.le_of_ble_eq_true rfl⟩ ⟨rfl, rfl⟩ ⟨Nat.zero_le _, Nat.zero_le _⟩ (RP.preS hK (fun k q h => by simp at h)) rfl hl.1 rfl (Nat.le_of_ble_eq_true rfl) dX3_isHouse_8 ?_
  exact rr_z hx hb hr hlocks dX3_isHouse_11 bi_nar (bi_c (isH_iff hn6))
abbrev rm_X3_isDay : Room := { frames := 1, cells := 0, slots := 0, locals := 22 }
set_option maxRecDepth 100000 in
set_option maxHeartbeats 4000000 in
theorem c_X3_isDay (l : Launch) (D : va_G) (cI cB : ClassId) (aS : Nat) (b : Nat → Nat) (st n td nd nh pl : Nat) (bs : Int32) (kd ag bo pa dm dn hh hn pg sv : Nat → Int32) (sd : Int64) (ik : Int32) (ks ktd knd knh : Nat) (kbs : Int32) (kag kbo kpa kdm kdn khh khn : Nat → Int32) (hf : Int64) (x : Int32) (hn6 : n ≤ 6) : Met l yX3_isDay (mw yX3_isDay cX3_isDay 2 (some .boolean)) rm_X3_isDay (RP D cI cB aS (MW cI cB b st n td nd nh pl bs kd ag bo pa dm dn hh hn pg sv sd ik ks ktd knd knh kbs kag kbo kpa kdm kdn khh khn hf) [.ref (b 0), .int x]) (vp_Si (fun r => r = (bi (dIn n td x)))) 0 0 (fun _ => False) := by
  refine met_of (by decide) (Nat.le_of_ble_eq_true rfl) ?_
  intro p e s m below meth c ls hx hb hr hml hown hg hlocks hin hK hP hl
  have hown : s.vm.findClass RX3 = some m.cls := hown
  have hl : lv_has ls 2 [(0, .ref (b 0)), (1, .int x)] := hl
  refine lv_aload_n hx hb dX3_isDay_0 rfl (lv_at hl 0 rfl) ?_
  refine va_get (D := D) (ci := 3) (v := .int (nI n)) (C := RX3) (T := TX3) (N := 32) hx hb hg us_X3 hown hK.1 hP 0 MW_g0 rfl 1 (by decide) (hg _ gm_402) (fun _ h9 => h9) rfl dX3_isDay_1 ?_
  refine nv_if_le (tgt := 23) hx hb dX3_isDay_4 (by omega) (by decide) (fun c_4 => ?_) (fun c_4 => ?_)
  · skip
    refine lv_iconst (v := (nI 0)) hx hb dX3_isDay_23 (by decide) ?_
    exact rr_z hx hb hr hlocks dX3_isDay_24 bi_nar (ret_f (fun h => absurd h.1 (by omega)))
  · skip
    refine lv_iload_n hx hb dX3_isDay_7 rfl (lv_at hl 1 rfl) ?_
    refine lv_iconst (v := (nI 0)) hx hb dX3_isDay_8 (by decide) ?_
    refine lv_aload_n hx hb dX3_isDay_9 rfl (lv_at hl 0 rfl) ?_
    refine va_get (D := D) (ci := 3) (v := .int (nI td)) (C := RX3) (T := TX3) (N := 32) hx hb hg us_X3 hown hK.1 hP 0 MW_g0 rfl 6 (by decide) (hg _ gm_407) (fun _ h9 => h9) rfl dX3_isDay_10 ?_
    refine rdS (As := [.int x, .int (nI 0), .int (nI td)]) (rest := []) hx hb hml hown hg (c_X3_within l D cI cB aS x (nI 0) (nI td)) gm_469 sf_X3_within ⟨Nat.le_of_ble_eq_true rfl, Nat.le_of_ble_eq_true rfl⟩ ⟨rfl, rfl⟩ ⟨Nat.zero_le _, Nat.zero_le _⟩ (RP.preS hK (fun k q h => by simp at h)) rfl hl.1 rfl (Nat.le_of_ble_eq_true rfl) dX3_isDay_13 ?_
    refine bv_if_eq (tgt := 23) hx hb dX3_isDay_16 (by decide) (fun c_16 => ?_) (fun c_16 => ?_)
    · skip
      refine lv_iconst (v := (nI 0)) hx hb dX3_isDay_23 (by decide) ?_
      exact rr_z hx hb hr hlocks dX3_isDay_24 bi_nar (ret_f (fun h => c_16 h.2))
    · skip
      refine lv_iconst (v := (nI 1)) hx hb dX3_isDay_19 (by decide) ?_
      refine lv_goto (tgt := 24) hx hb dX3_isDay_20 (by decide) ?_
      exact rr_z hx hb hr hlocks dX3_isDay_24 bi_nar (ret_t ⟨by omega, c_16⟩)
abbrev rm_X3_numberBy : Room := { frames := 0, cells := 0, slots := 0, locals := 0 }
set_option maxRecDepth 100000 in
set_option maxHeartbeats 4000000 in
theorem c_X3_numberBy (l : Launch) (D : va_G) (cI cB : ClassId) (aS : Nat) (b : Nat → Nat) (st n td nd nh pl : Nat) (bs : Int32) (kd ag bo pa dm dn hh hn pg sv : Nat → Int32) (sd : Int64) (ik : Int32) (ks ktd knd knh : Nat) (kbs : Int32) (kag kbo kpa kdm kdn khh khn : Nat → Int32) (hf : Int64) (j : Nat) (x : Int32) (qj : j < 6) : Met l yX3_numberBy (mw yX3_numberBy cX3_numberBy 3 (some .int)) rm_X3_numberBy (RP D cI cB aS (MW cI cB b st n td nd nh pl bs kd ag bo pa dm dn hh hn pg sv sd ik ks ktd knd knh kbs kag kbo kpa kdm kdn khh khn hf) [.ref (b 0), .int (nI j), .int x]) (vp_Si (fun r => r = (numF (kd j) x))) 0 0 (fun _ => False) := by
  refine met_of (by decide) (Nat.le_of_ble_eq_true rfl) ?_
  intro p e s m below meth c ls hx hb hr hml hown hg hlocks hin hK hP hl
  have hown : s.vm.findClass RX3 = some m.cls := hown
  have hl : lv_has ls 3 [(0, .ref (b 0)), (1, .int (nI j)), (2, .int x)] := hl
  refine lv_aload_n hx hb dX3_numberBy_0 rfl (lv_at hl 0 rfl) ?_
  refine va_get (D := D) (ci := 3) (v := .ref (b 1)) (C := RX3) (T := TX3) (N := 32) hx hb hg us_X3 hown hK.1 hP 0 MW_g0 rfl 2 (by decide) (hg _ gm_403) (fun _ h9 => h9) rfl dX3_numberBy_1 ?_
  refine lv_iload_n hx hb dX3_numberBy_4 rfl (lv_at hl 1 rfl) ?_
  refine nv_iald hx hb hK.1 hP 1 0 MW_g1 rfl (by omega) (by omega) dX3_numberBy_5 ?_
  refine lv_iconst (v := (nI 1)) hx hb dX3_numberBy_6 (by decide) ?_
  refine lv_icmp_ne (tgt := 16) hx hb dX3_numberBy_7 (by decide) (fun c_7 => ?_) (fun c_7 => ?_)
  · skip
    refine lv_iload_n hx hb dX3_numberBy_16 rfl (lv_at hl 2 rfl) ?_
    exact rr_i hx hb hr hlocks dX3_numberBy_17 ((if_neg c_7).symm)
  · skip
    refine lv_iload_n hx hb dX3_numberBy_10 rfl (lv_at hl 2 rfl) ?_
    refine lv_iconst (v := (nI 2)) hx hb dX3_numberBy_11 (by decide) ?_
    refine lv_idiv hx hb dX3_numberBy_12 (by decide) ?_
    refine lv_goto (tgt := 17) hx hb dX3_numberBy_13 (by decide) ?_
    exact rr_i hx hb hr hlocks dX3_numberBy_17 ((if_pos c_7).symm)
abbrev rm_X3_number : Room := { frames := 1, cells := 0, slots := 0, locals := 22 }
theorem vf_X3_numberBy : vfacts RX3 yX3_numberBy cX3_numberBy 3 (some .int) 2 := ⟨⟨rfl, by decide +kernel, by decide +kernel, by decide +kernel⟩, gm_507, gm_712, gm_5, gm_508⟩
set_option maxRecDepth 100000 in
set_option maxHeartbeats 4000000 in
theorem c_X3_number (l : Launch) (D : va_G) (cI cB : ClassId) (aS : Nat) (b : Nat → Nat) (st n td nd nh pl : Nat) (bs : Int32) (kd ag bo pa dm dn hh hn pg sv : Nat → Int32) (sd : Int64) (ik : Int32) (ks ktd knd knh : Nat) (kbs : Int32) (kag kbo kpa kdm kdn khh khn : Nat → Int32) (hf : Int64) (j : Nat) (qj : j < 6) : Met l yX3_number (mw yX3_number cX3_number 2 (some .int)) rm_X3_number (RP D cI cB aS (MW cI cB b st n td nd nh pl bs kd ag bo pa dm dn hh hn pg sv sd ik ks ktd knd knh kbs kag kbo kpa kdm kdn khh khn hf) [.ref (b 0), .int (nI j)]) (vp_Si (fun r => r = (nmF kd ag j))) 0 0 (fun _ => False) := by
  refine met_of (by decide) (Nat.le_of_ble_eq_true rfl) ?_
  intro p e s m below meth c ls hx hb hr hml hown hg hlocks hin hK hP hl
  have hown : s.vm.findClass RX3 = some m.cls := hown
  have hl : lv_has ls 2 [(0, .ref (b 0)), (1, .int (nI j))] := hl
  refine lv_aload_n hx hb dX3_number_0 rfl (lv_at hl 0 rfl) ?_
  refine lv_iload_n hx hb dX3_number_1 rfl (lv_at hl 1 rfl) ?_
  refine lv_aload_n hx hb dX3_number_2 rfl (lv_at hl 0 rfl) ?_
  refine va_get (D := D) (ci := 3) (v := .ref (b 2)) (C := RX3) (T := TX3) (N := 32) hx hb hg us_X3 hown hK.1 hP 0 MW_g0 rfl 3 (by decide) (hg _ gm_404) (fun _ h9 => h9) rfl dX3_number_3 ?_
  refine lv_iload_n hx hb dX3_number_6 rfl (lv_at hl 1 rfl) ?_
  refine nv_iald hx hb hK.1 hP 2 0 MW_g2 rfl (by omega) (by omega) dX3_number_7 ?_
  refine rdV (As := [.int (nI j), .int (ag j)]) (rest := []) hx hb hml hown hg (c_X3_numberBy l D cI cB aS _ st n td nd nh pl bs kd ag bo pa dm dn hh hn pg sv sd ik ks ktd knd knh kbs kag kbo kpa kdm kdn khh khn hf j (ag j) (by first | assumption | omega)) gm_506 vf_X3_numberBy ⟨Nat.le_of_ble_eq_true rfl, Nat.le_of_ble_eq_true rfl⟩ ⟨rfl, rfl⟩ ⟨Nat.zero_le _, Nat.zero_le _⟩ (RP.preV hK hP (q0 := 0) (ci := 3) MW_g0 rfl) rfl hl.1 rfl (Nat.le_of_ble_eq_true rfl) dX3_number_8 ?_
  exact rr_i hx hb hr hlocks dX3_number_11 rfl
abbrev rm_X3_numberOn : Room := { frames := 1, cells := 0, slots := 0, locals := 22 }
set_option maxRecDepth 100000 in
set_option maxHeartbeats 4000000 in
theorem c_X3_numberOn (l : Launch) (D : va_G) (cI cB : ClassId) (aS : Nat) (b : Nat → Nat) (st n td nd nh pl : Nat) (bs : Int32) (kd ag bo pa dm dn hh hn pg sv : Nat → Int32) (sd : Int64) (ik : Int32) (ks ktd knd knh : Nat) (kbs : Int32) (kag kbo kpa kdm kdn khh khn : Nat → Int32) (hf : Int64) (j d : Nat) (qj : j < 6) (qd : d ≤ td) (qt : td ≤ 30) : Met l yX3_numberOn (mw yX3_numberOn cX3_numberOn 3 (some .int)) rm_X3_numberOn (RP D cI cB aS (MW cI cB b st n td nd nh pl bs kd ag bo pa dm dn hh hn pg sv sd ik ks ktd knd knh kbs kag kbo kpa kdm kdn khh khn hf) [.ref (b 0), .int (nI j), .int (nI d)]) (vp_Si (fun r => r = (numOn kd ag pa td j d))) 0 0 (fun _ => False) := by
  refine met_of (by decide) (Nat.le_of_ble_eq_true rfl) ?_
  intro p e s m below meth c ls hx hb hr hml hown hg hlocks hin hK hP hl
  have hown : s.vm.findClass RX3 = some m.cls := hown
  have hl : lv_has ls 3 [(0, .ref (b 0)), (1, .int (nI j)), (2, .int (nI d))] := hl
  refine lv_aload_n hx hb dX3_numberOn_0 rfl (lv_at hl 0 rfl) ?_
  refine lv_iload_n hx hb dX3_numberOn_1 rfl (lv_at hl 1 rfl) ?_
  refine lv_iload_n hx hb dX3_numberOn_2 rfl (lv_at hl 2 rfl) ?_
  refine lv_aload_n hx hb dX3_numberOn_3 rfl (lv_at hl 0 rfl) ?_
  refine va_get (D := D) (ci := 3) (v := .int (nI td)) (C := RX3) (T := TX3) (N := 32) hx hb hg us_X3 hown hK.1 hP 0 MW_g0 rfl 6 (by decide) (hg _ gm_407) (fun _ h9 => h9) rfl dX3_numberOn_4 ?_
  refine nv_icmp_ne (tgt := 19) hx hb dX3_numberOn_7 (by omega) (by omega) (by decide) (fun c_7 => ?_) (fun c_7 => ?_)
  · skip
    refine lv_aload_n hx hb dX3_numberOn_19 rfl (lv_at hl 0 rfl) ?_
    refine va_get (D := D) (ci := 3) (v := .ref (b 4)) (C := RX3) (T := TX3) (N := 32) hx hb hg us_X3 hown hK.1 hP 0 MW_g0 rfl 5 (by decide) (hg _ gm_406) (fun _ h9 => h9) rfl dX3_numberOn_20 ?_
    refine lv_bipush (v := (nI 6)) hx hb dX3_numberOn_23 (by decide) ?_
    refine lv_iload_n hx hb dX3_numberOn_25 rfl (lv_at hl 2 rfl) ?_
    refine nv_imul hx hb dX3_numberOn_26 ?_
    refine lv_iload_n hx hb dX3_numberOn_27 rfl (lv_at hl 1 rfl) ?_
    refine nv_iadd hx hb dX3_numberOn_28 ?_
    refine nv_iald hx hb hK.1 hP 4 0 MW_g4 rfl (by omega) (by omega) dX3_numberOn_29 ?_
    refine rdV (As := [.int (nI j), .int (pa (6 * d + j))]) (rest := []) hx hb hml hown hg (c_X3_numberBy l D cI cB aS _ st n td nd nh pl bs kd ag bo pa dm dn hh hn pg sv sd ik ks ktd knd knh kbs kag kbo kpa kdm kdn khh khn hf j (pa (6 * d + j)) (by first | assumption | omega)) gm_506 vf_X3_numberBy ⟨Nat.le_of_ble_eq_true rfl, Nat.le_of_ble_eq_true rfl⟩ ⟨rfl, rfl⟩ ⟨Nat.zero_le _, Nat.zero_le _⟩ (RP.preV hK hP (q0 := 0) (ci := 3) MW_g0 rfl) rfl hl.1 rfl (Nat.le_of_ble_eq_true rfl) dX3_numberOn_30 ?_
    exact rr_i hx hb hr hlocks dX3_numberOn_33 (by unfold numOn ageOn; rw [if_neg c_7])
  · skip
    refine lv_aload_n hx hb dX3_numberOn_10 rfl (lv_at hl 0 rfl) ?_
    refine va_get (D := D) (ci := 3) (v := .ref (b 2)) (C := RX3) (T := TX3) (N := 32) hx hb hg us_X3 hown hK.1 hP 0 MW_g0 rfl 3 (by decide) (hg _ gm_404) (fun _ h9 => h9) rfl dX3_numberOn_11 ?_
    refine lv_iload_n hx hb dX3_numberOn_14 rfl (lv_at hl 1 rfl) ?_
    refine nv_iald hx hb hK.1 hP 2 0 MW_g2 rfl (by omega) (by omega) dX3_numberOn_15 ?_
    refine lv_goto (tgt := 30) hx hb dX3_numberOn_16 (by decide) ?_
    refine rdV (As := [.int (nI j), .int (ag j)]) (rest := []) hx hb hml hown hg (c_X3_numberBy l D cI cB aS _ st n td nd nh pl bs kd ag bo pa dm dn hh hn pg sv sd ik ks ktd knd knh kbs kag kbo kpa kdm kdn khh khn hf j (ag j) (by first | assumption | omega)) gm_506 vf_X3_numberBy ⟨Nat.le_of_ble_eq_true rfl, Nat.le_of_ble_eq_true rfl⟩ ⟨rfl, rfl⟩ ⟨Nat.zero_le _, Nat.zero_le _⟩ (RP.preV hK hP (q0 := 0) (ci := 3) MW_g0 rfl) rfl hl.1 rfl (Nat.le_of_ble_eq_true rfl) dX3_numberOn_30 ?_
    exact rr_i hx hb hr hlocks dX3_numberOn_33 (by unfold numOn ageOn; rw [if_pos c_7])
abbrev rm_X3_mayBirth : Room := { frames := 0, cells := 0, slots := 0, locals := 0 }
set_option maxRecDepth 100000 in
set_option maxHeartbeats 4000000 in
theorem c_X3_mayBirth (l : Launch) (D : va_G) (cI cB : ClassId) (aS : Nat) (b : Nat → Nat) (st n td nd nh pl : Nat) (bs : Int32) (kd ag bo pa dm dn hh hn pg sv : Nat → Int32) (sd : Int64) (ik : Int32) (ks ktd knd knh : Nat) (kbs : Int32) (kag kbo kpa kdm kdn khh khn : Nat → Int32) (hf : Int64) (j : Nat) (qj : j < 6) : Met l yX3_mayBirth (mw yX3_mayBirth cX3_mayBirth 2 (some .boolean)) rm_X3_mayBirth (RP D cI cB aS (MW cI cB b st n td nd nh pl bs kd ag bo pa dm dn hh hn pg sv sd ik ks ktd knd knh kbs kag kbo kpa kdm kdn khh khn hf) [.ref (b 0), .int (nI j)]) (vp_Si (fun r => r = (bi (mayB (kd j))))) 0 0 (fun _ => False) := by
  refine met_of (by decide) (Nat.le_of_ble_eq_true rfl) ?_
  intro p e s m below meth c ls hx hb hr hml hown hg hlocks hin hK hP hl
  have hown : s.vm.findClass RX3 = some m.cls := hown
  have hl : lv_has ls 2 [(0, .ref (b 0)), (1, .int (nI j))] := hl
  refine lv_aload_n hx hb dX3_mayBirth_0 rfl (lv_at hl 0 rfl) ?_
  refine va_get (D := D) (ci := 3) (v := .ref (b 1)) (C := RX3) (T := TX3) (N := 32) hx hb hg us_X3 hown hK.1 hP 0 MW_g0 rfl 2 (by decide) (hg _ gm_403) (fun _ h9 => h9) rfl dX3_mayBirth_1 ?_
  refine lv_iload_n hx hb dX3_mayBirth_4 rfl (lv_at hl 1 rfl) ?_
  refine nv_iald hx hb hK.1 hP 1 0 MW_g1 rfl (by omega) (by omega) dX3_mayBirth_5 ?_
  refine lv_iconst (v := (nI 2)) hx hb dX3_mayBirth_6 (by decide) ?_
  refine lv_icmp_eq (tgt := 24) hx hb dX3_mayBirth_7 (by decide) (fun c_7 => ?_) (fun c_7 => ?_)
  · skip
    refine lv_iconst (v := (nI 0)) hx hb dX3_mayBirth_24 (by decide) ?_
    exact rr_z hx hb hr hlocks dX3_mayBirth_25 bi_nar (ret_f (fun h => h (Or.inl c_7)))
  · skip
    refine lv_aload_n hx hb dX3_mayBirth_10 rfl (lv_at hl 0 rfl) ?_
    refine va_get (D := D) (ci := 3) (v := .ref (b 1)) (C := RX3) (T := TX3) (N := 32) hx hb hg us_X3 hown hK.1 hP 0 MW_g0 rfl 2 (by decide) (hg _ gm_403) (fun _ h9 => h9) rfl dX3_mayBirth_11 ?_
    refine lv_iload_n hx hb dX3_mayBirth_14 rfl (lv_at hl 1 rfl) ?_
    refine nv_iald hx hb hK.1 hP 1 0 MW_g1 rfl (by omega) (by omega) dX3_mayBirth_15 ?_
    refine lv_iconst (v := (nI 4)) hx hb dX3_mayBirth_16 (by decide) ?_
    refine lv_icmp_eq (tgt := 24) hx hb dX3_mayBirth_17 (by decide) (fun c_17 => ?_) (fun c_17 => ?_)
    · skip
      refine lv_iconst (v := (nI 0)) hx hb dX3_mayBirth_24 (by decide) ?_
      exact rr_z hx hb hr hlocks dX3_mayBirth_25 bi_nar (ret_f (fun h => h (Or.inr c_17)))
    · skip
      refine lv_iconst (v := (nI 1)) hx hb dX3_mayBirth_20 (by decide) ?_
      refine lv_goto (tgt := 25) hx hb dX3_mayBirth_21 (by decide) ?_
      exact rr_z hx hb hr hlocks dX3_mayBirth_25 bi_nar (ret_t (fun h => h.elim c_7 c_17))
abbrev rm_X3_lends : Room := { frames := 0, cells := 0, slots := 0, locals := 0 }
set_option maxRecDepth 100000 in
set_option maxHeartbeats 4000000 in
theorem c_X3_lends (l : Launch) (D : va_G) (cI cB : ClassId) (aS : Nat) (b : Nat → Nat) (st n td nd nh pl : Nat) (bs : Int32) (kd ag bo pa dm dn hh hn pg sv : Nat → Int32) (sd : Int64) (ik : Int32) (ks ktd knd knh : Nat) (kbs : Int32) (kag kbo kpa kdm kdn khh khn : Nat → Int32) (hf : Int64) (j : Nat) (qj : j < 6) (hn6 : n ≤ 6) : Met l yX3_lends (mw yX3_lends cX3_lends 2 (some .boolean)) rm_X3_lends (RP D cI cB aS (MW cI cB b st n td nd nh pl bs kd ag bo pa dm dn hh hn pg sv sd ik ks ktd knd knh kbs kag kbo kpa kdm kdn khh khn hf) [.ref (b 0), .int (nI j)]) (vp_Si (fun r => r = (bi (lendF n kd j)))) 0 0 (fun _ => False) := by
  refine met_of (by decide) (Nat.le_of_ble_eq_true rfl) ?_
  intro p e s m below meth c ls hx hb hr hml hown hg hlocks hin hK hP hl
  have hown : s.vm.findClass RX3 = some m.cls := hown
  have hl : lv_has ls 2 [(0, .ref (b 0)), (1, .int (nI j))] := hl
  refine lv_iload_n hx hb dX3_lends_0 rfl (lv_at hl 1 rfl) ?_
  refine lv_iconst (v := (nI 1)) hx hb dX3_lends_1 (by decide) ?_
  refine nv_iadd hx hb dX3_lends_2 ?_
  refine lv_aload_n hx hb dX3_lends_3 rfl (lv_at hl 0 rfl) ?_
  refine va_get (D := D) (ci := 3) (v := .int (nI n)) (C := RX3) (T := TX3) (N := 32) hx hb hg us_X3 hown hK.1 hP 0 MW_g0 rfl 1 (by decide) (hg _ gm_402) (fun _ h9 => h9) rfl dX3_lends_4 ?_
  refine nv_icmp_ge (tgt := 26) hx hb dX3_lends_7 (by omega) (by omega) (by decide) (fun c_7 => ?_) (fun c_7 => ?_)
  · skip
    refine lv_iconst (v := (nI 0)) hx hb dX3_lends_26 (by decide) ?_
    exact rr_z hx hb hr hlocks dX3_lends_27 bi_nar (ret_f (by first | assumption | omega))
  · skip
    refine lv_aload_n hx hb dX3_lends_10 rfl (lv_at hl 0 rfl) ?_
    refine va_get (D := D) (ci := 3) (v := .ref (b 1)) (C := RX3) (T := TX3) (N := 32) hx hb hg us_X3 hown hK.1 hP 0 MW_g0 rfl 2 (by decide) (hg _ gm_403) (fun _ h9 => h9) rfl dX3_lends_11 ?_
    refine lv_iload_n hx hb dX3_lends_14 rfl (lv_at hl 1 rfl) ?_
    refine lv_iconst (v := (nI 1)) hx hb dX3_lends_15 (by decide) ?_
    refine nv_iadd hx hb dX3_lends_16 ?_
    refine nv_iald hx hb hK.1 hP 1 0 MW_g1 rfl (by omega) (by omega) dX3_lends_17 ?_
    refine lv_iconst (v := (nI 3)) hx hb dX3_lends_18 (by decide) ?_
    refine lv_icmp_ne (tgt := 26) hx hb dX3_lends_19 (by decide) (fun c_19 => ?_) (fun c_19 => ?_)
    · skip
      refine lv_iconst (v := (nI 0)) hx hb dX3_lends_26 (by decide) ?_
      exact rr_z hx hb hr hlocks dX3_lends_27 bi_nar (ret_f (fun h => c_19 h.2))
    · skip
      refine lv_iconst (v := (nI 1)) hx hb dX3_lends_22 (by decide) ?_
      refine lv_goto (tgt := 27) hx hb dX3_lends_23 (by decide) ?_
      exact rr_z hx hb hr hlocks dX3_lends_27 bi_nar (ret_t ⟨c_7, c_19⟩)
abbrev rm_X3_orderOf : Room := { frames := 2, cells := 0, slots := 0, locals := 43 }
theorem vf_X3_number : vfacts RX3 yX3_number cX3_number 2 (some .int) 1 := ⟨⟨rfl, by decide +kernel, by decide +kernel, by decide +kernel⟩, gm_504, gm_711, gm_5, gm_505⟩
set_option maxRecDepth 100000 in
set_option maxHeartbeats 4000000 in
theorem c_X3_orderOf (l : Launch) (D : va_G) (cI cB : ClassId) (aS : Nat) (b : Nat → Nat) (st n td nd nh pl : Nat) (bs : Int32) (kd ag bo pa dm dn hh hn pg sv : Nat → Int32) (sd : Int64) (ik : Int32) (ks ktd knd knh : Nat) (kbs : Int32) (kag kbo kpa kdm kdn khh khn : Nat → Int32) (hf : Int64) (h : Nat) (qh : h < n) (hn6 : n ≤ 6) : Met l yX3_orderOf (mw yX3_orderOf cX3_orderOf 4 (some .int)) rm_X3_orderOf (RP D cI cB aS (MW cI cB b st n td nd nh pl bs kd ag bo pa dm dn hh hn pg sv sd ik ks ktd knd knh kbs kag kbo kpa kdm kdn khh khn hf) [.ref (b 0), .int (nI h)]) (vp_Si (fun r => r = (nI (ordF n (nmF kd ag) h)))) 0 0 (fun _ => False) := by
  refine met_of (by decide) (Nat.le_of_ble_eq_true rfl) ?_
  intro p e s m below meth c ls hx hb hr hml hown hg hlocks hin hK hP hl
  have hown : s.vm.findClass RX3 = some m.cls := hown
  have hl : lv_has ls 4 [(0, .ref (b 0)), (1, .int (nI h))] := hl
  refine lv_iconst (v := (nI 0)) hx hb dX3_orderOf_0 (by decide) ?_
  refine lv_istore_n (lv' := [(2, .int (nI 0)), (0, .ref (b 0)), (1, .int (nI h))]) hx hb dX3_orderOf_1 rfl hl (by decide) rfl (fun ls hl => ?_)
  refine lv_iconst (v := (nI 0)) hx hb dX3_orderOf_2 (by decide) ?_
  refine lv_istore_n (lv' := [(3, .int (nI 0)), (2, .int (nI 0)), (0, .ref (b 0)), (1, .int (nI h))]) hx hb dX3_orderOf_3 rfl hl (by decide) rfl (fun ls hl => ?_)
  -- loop at 4
  refine loopR (nL := 4) (B := n) (I := fun i => True) (lv := fun i => [(0, .ref (b 0)), (1, .int (nI h)), (2, .int (nI (cn (ordP (nmF kd ag) h) i))), (3, .int (nI i))]) 0 (Nat.zero_le _) (trivial) (by show lv_has ls 4 [(0, .ref (b 0)), (1, .int (nI h)), (2, .int (nI (cn (ordP (nmF kd ag) h) 0))), (3, .int (nI 0))]; exact lv_sub hl [2, 3, 1, 0] rfl) (fun i ls hj hI hl ih => ?_)
  have hl : lv_has ls 4 [(0, .ref (b 0)), (1, .int (nI h)), (2, .int (nI (cn (ordP (nmF kd ag) h) i))), (3, .int (nI i))] := hl
  have ih_4 := ih
  refine lv_iload_n hx hb dX3_orderOf_4 rfl (lv_at hl 3 rfl) ?_
  refine lv_aload_n hx hb dX3_orderOf_5 rfl (lv_at hl 0 rfl) ?_
  refine va_get (D := D) (ci := 3) (v := .int (nI n)) (C := RX3) (T := TX3) (N := 32) hx hb hg us_X3 hown hK.1 hP 0 MW_g0 rfl 1 (by decide) (hg _ gm_402) (fun _ h9 => h9) rfl dX3_orderOf_6 ?_
  refine nv_icmp_ge (tgt := 57) hx hb dX3_orderOf_9 (by omega) (by omega) (by decide) (fun c_9 => ?_) (fun c_9 => ?_)
  · skip
    refine lv_iload_n hx hb dX3_orderOf_57 rfl (lv_at hl 2 rfl) ?_
    exact rr_i hx hb hr hlocks dX3_orderOf_58 (by rw [show i = n by omega]; rfl)
  · skip
    refine lv_iload_n hx hb dX3_orderOf_12 rfl (lv_at hl 2 rfl) ?_
    refine lv_aload_n hx hb dX3_orderOf_13 rfl (lv_at hl 0 rfl) ?_
    refine lv_iload_n hx hb dX3_orderOf_14 rfl (lv_at hl 3 rfl) ?_
    refine rdV (As := [.int (nI i)]) (rest := [.int (nI (cn (ordP (nmF kd ag) h) i))]) hx hb hml hown hg (c_X3_number l D cI cB aS _ st n td nd nh pl bs kd ag bo pa dm dn hh hn pg sv sd ik ks ktd knd knh kbs kag kbo kpa kdm kdn khh khn hf i (by first | assumption | omega)) gm_503 vf_X3_number ⟨Nat.le_of_ble_eq_true rfl, Nat.le_of_ble_eq_true rfl⟩ ⟨rfl, rfl⟩ ⟨Nat.zero_le _, Nat.zero_le _⟩ (RP.preV hK hP (q0 := 0) (ci := 3) MW_g0 rfl) rfl hl.1 rfl (Nat.le_of_ble_eq_true rfl) dX3_orderOf_15 ?_
    refine lv_aload_n hx hb dX3_orderOf_18 rfl (lv_at hl 0 rfl) ?_
    refine lv_iload_n hx hb dX3_orderOf_19 rfl (lv_at hl 1 rfl) ?_
    refine rdV (As := [.int (nI h)]) (rest := [.int (nmF kd ag i), .int (nI (cn (ordP (nmF kd ag) h) i))]) hx hb hml hown hg (c_X3_number l D cI cB aS _ st n td nd nh pl bs kd ag bo pa dm dn hh hn pg sv sd ik ks ktd knd knh kbs kag kbo kpa kdm kdn khh khn hf h (by first | assumption | omega)) gm_503 vf_X3_number ⟨Nat.le_of_ble_eq_true rfl, Nat.le_of_ble_eq_true rfl⟩ ⟨rfl, rfl⟩ ⟨Nat.zero_le _, Nat.zero_le _⟩ (RP.preV hK hP (q0 := 0) (ci := 3) MW_g0 rfl) rfl hl.1 rfl (Nat.le_of_ble_eq_true rfl) dX3_orderOf_20 ?_
    refine lv_icmp_lt (tgt := 44) hx hb dX3_orderOf_23 (by decide) (fun c_23 => ?_) (fun c_23 => ?_)
    · skip
      refine lv_iconst (v := (nI 1)) hx hb dX3_orderOf_44 (by decide) ?_
      refine lv_goto (tgt := 49) hx hb dX3_orderOf_45 (by decide) ?_
      refine nv_iadd hx hb dX3_orderOf_49 ?_
      refine lv_istore_n (lv' := [(2, .int (nI (cn (ordP (nmF kd ag) h) i + 1))), (0, .ref (b 0)), (1, .int (nI h)), (3, .int (nI i))]) hx hb dX3_orderOf_50 rfl hl (by decide) rfl (fun ls hl => ?_)
      refine lv_iinc (v := (nI (i + 1))) (lv' := [(3, .int (nI (i + 1))), (2, .int (nI (cn (ordP (nmF kd ag) h) i + 1))), (0, .ref (b 0)), (1, .int (nI h))]) hx hb dX3_orderOf_51 hl (k := 3) rfl (nI_i1 _) (by decide) rfl (fun ls hl => ?_)
      refine lv_goto (tgt := 4) hx hb dX3_orderOf_54 (by decide) ?_
      exact ih_4 _ (by omega) (trivial) (by show lv_has ls 4 [(0, .ref (b 0)), (1, .int (nI h)), (2, .int (nI (cn (ordP (nmF kd ag) h) (i + 1)))), (3, .int (nI (i + 1)))]; rw [show (cn (ordP (nmF kd ag) h) (i + 1)) = cn (ordP (nmF kd ag) h) i + 1 from cn_t (decide_eq_true (Or.inl c_23))]; exact lv_sub hl [2, 3, 1, 0] rfl)
    · skip
      refine lv_aload_n hx hb dX3_orderOf_26 rfl (lv_at hl 0 rfl) ?_
      refine lv_iload_n hx hb dX3_orderOf_27 rfl (lv_at hl 3 rfl) ?_
      refine rdV (As := [.int (nI i)]) (rest := [.int (nI (cn (ordP (nmF kd ag) h) i))]) hx hb hml hown hg (c_X3_number l D cI cB aS _ st n td nd nh pl bs kd ag bo pa dm dn hh hn pg sv sd ik ks ktd knd knh kbs kag kbo kpa kdm kdn khh khn hf i (by first | assumption | omega)) gm_503 vf_X3_number ⟨Nat.le_of_ble_eq_true rfl, Nat.le_of_ble_eq_true rfl⟩ ⟨rfl, rfl⟩ ⟨Nat.zero_le _, Nat.zero_le _⟩ (RP.preV hK hP (q0 := 0) (ci := 3) MW_g0 rfl) rfl hl.1 rfl (Nat.le_of_ble_eq_true rfl) dX3_orderOf_28 ?_
      refine lv_aload_n hx hb dX3_orderOf_31 rfl (lv_at hl 0 rfl) ?_
      refine lv_iload_n hx hb dX3_orderOf_32 rfl (lv_at hl 1 rfl) ?_
      refine rdV (As := [.int (nI h)]) (rest := [.int (nmF kd ag i), .int (nI (cn (ordP (nmF kd ag) h) i))]) hx hb hml hown hg (c_X3_number l D cI cB aS _ st n td nd nh pl bs kd ag bo pa dm dn hh hn pg sv sd ik ks ktd knd knh kbs kag kbo kpa kdm kdn khh khn hf h (by first | assumption | omega)) gm_503 vf_X3_number ⟨Nat.le_of_ble_eq_true rfl, Nat.le_of_ble_eq_true rfl⟩ ⟨rfl, rfl⟩ ⟨Nat.zero_le _, Nat.zero_le _⟩ (RP.preV hK hP (q0 := 0) (ci := 3) MW_g0 rfl) rfl hl.1 rfl (Nat.le_of_ble_eq_true rfl) dX3_orderOf_33 ?_
      refine lv_icmp_ne (tgt := 48) hx hb dX3_orderOf_36 (by decide) (fun c_36 => ?_) (fun c_36 => ?_)
      · skip
        refine lv_iconst (v := (nI 0)) hx hb dX3_orderOf_48 (by decide) ?_
        refine nv_iadd hx hb dX3_orderOf_49 ?_
        refine lv_istore_n (lv' := [(2, .int (nI (cn (ordP (nmF kd ag) h) i + 0))), (0, .ref (b 0)), (1, .int (nI h)), (3, .int (nI i))]) hx hb dX3_orderOf_50 rfl hl (by decide) rfl (fun ls hl => ?_)
        refine lv_iinc (v := (nI (i + 1))) (lv' := [(3, .int (nI (i + 1))), (2, .int (nI (cn (ordP (nmF kd ag) h) i + 0))), (0, .ref (b 0)), (1, .int (nI h))]) hx hb dX3_orderOf_51 hl (k := 3) rfl (nI_i1 _) (by decide) rfl (fun ls hl => ?_)
        refine lv_goto (tgt := 4) hx hb dX3_orderOf_54 (by decide) ?_
        exact ih_4 _ (by omega) (trivial) (by show lv_has ls 4 [(0, .ref (b 0)), (1, .int (nI h)), (2, .int (nI (cn (ordP (nmF kd ag) h) (i + 1)))), (3, .int (nI (i + 1)))]; rw [show (cn (ordP (nmF kd ag) h) (i + 1)) = cn (ordP (nmF kd ag) h) i + 0 from cn_f (decide_eq_false (fun q => q.elim c_23 (fun q => c_36 q.1)))]; exact lv_sub hl [2, 3, 1, 0] rfl)
      · skip
        refine lv_iload_n hx hb dX3_orderOf_39 rfl (lv_at hl 3 rfl) ?_
        refine lv_iload_n hx hb dX3_orderOf_40 rfl (lv_at hl 1 rfl) ?_
        refine nv_icmp_ge (tgt := 48) hx hb dX3_orderOf_41 (by omega) (by omega) (by decide) (fun c_41 => ?_) (fun c_41 => ?_)
        · skip
          refine lv_iconst (v := (nI 0)) hx hb dX3_orderOf_48 (by decide) ?_
          refine nv_iadd hx hb dX3_orderOf_49 ?_
          refine lv_istore_n (lv' := [(2, .int (nI (cn (ordP (nmF kd ag) h) i + 0))), (0, .ref (b 0)), (1, .int (nI h)), (3, .int (nI i))]) hx hb dX3_orderOf_50 rfl hl (by decide) rfl (fun ls hl => ?_)
          refine lv_iinc (v := (nI (i + 1))) (lv' := [(3, .int (nI (i + 1))), (2, .int (nI (cn (ordP (nmF kd ag) h) i + 0))), (0, .ref (b 0)), (1, .int (nI h))]) hx hb dX3_orderOf_51 hl (k := 3) rfl (nI_i1 _) (by decide) rfl (fun ls hl => ?_)
          refine lv_goto (tgt := 4) hx hb dX3_orderOf_54 (by decide) ?_
          exact ih_4 _ (by omega) (trivial) (by show lv_has ls 4 [(0, .ref (b 0)), (1, .int (nI h)), (2, .int (nI (cn (ordP (nmF kd ag) h) (i + 1)))), (3, .int (nI (i + 1)))]; rw [show (cn (ordP (nmF kd ag) h) (i + 1)) = cn (ordP (nmF kd ag) h) i + 0 from cn_f (decide_eq_false (fun q => q.elim c_23 (fun q => absurd q.2 (by omega))))]; exact lv_sub hl [2, 3, 1, 0] rfl)
        · skip
          refine lv_iconst (v := (nI 1)) hx hb dX3_orderOf_44 (by decide) ?_
          refine lv_goto (tgt := 49) hx hb dX3_orderOf_45 (by decide) ?_
          refine nv_iadd hx hb dX3_orderOf_49 ?_
          refine lv_istore_n (lv' := [(2, .int (nI (cn (ordP (nmF kd ag) h) i + 1))), (0, .ref (b 0)), (1, .int (nI h)), (3, .int (nI i))]) hx hb dX3_orderOf_50 rfl hl (by decide) rfl (fun ls hl => ?_)
          refine lv_iinc (v := (nI (i + 1))) (lv' := [(3, .int (nI (i + 1))), (2, .int (nI (cn (ordP (nmF kd ag) h) i + 1))), (0, .ref (b 0)), (1, .int (nI h))]) hx hb dX3_orderOf_51 hl (k := 3) rfl (nI_i1 _) (by decide) rfl (fun ls hl => ?_)
          refine lv_goto (tgt := 4) hx hb dX3_orderOf_54 (by decide) ?_
          exact ih_4 _ (by omega) (trivial) (by show lv_has ls 4 [(0, .ref (b 0)), (1, .int (nI h)), (2, .int (nI (cn (ordP (nmF kd ag) h) (i + 1)))), (3, .int (nI (i + 1)))]; rw [show (cn (ordP (nmF kd ag) h) (i + 1)) = cn (ordP (nmF kd ag) h) i + 1 from cn_t (decide_eq_true (Or.inr ⟨c_36, c_41⟩))]; exact lv_sub hl [2, 3, 1, 0] rfl)
abbrev rm_X3_walkNow : Room := { frames := 3, cells := 0, slots := 0, locals := 66 }
theorem vf_X3_orderOf : vfacts RX3 yX3_orderOf cX3_orderOf 4 (some .int) 1 := ⟨⟨rfl, by decide +kernel, by decide +kernel, by decide +kernel⟩, gm_519, gm_716, gm_5, gm_520⟩
set_option maxRecDepth 100000 in
set_option maxHeartbeats 4000000 in
theorem c_X3_walkNow (l : Launch) (D : va_G) (cI cB : ClassId) (aS : Nat) (b : Nat → Nat) (st n td nd nh pl : Nat) (bs : Int32) (kd ag bo pa dm dn hh hn pg sv : Nat → Int32) (sd : Int64) (ik : Int32) (ks ktd knd knh : Nat) (kbs : Int32) (kag kbo kpa kdm kdn khh khn : Nat → Int32) (hf : Int64)  (hn6 : n ≤ 6) : Met l yX3_walkNow (mw yX3_walkNow cX3_walkNow 5 (some .int)) rm_X3_walkNow (RP D cI cB aS (MW cI cB b st n td nd nh pl bs kd ag bo pa dm dn hh hn pg sv sd ik ks ktd knd knh kbs kag kbo kpa kdm kdn khh khn hf) [.ref (b 0)]) (vp_Si (fun r => r = (nI (wkF n (nmF kd ag) n)))) 0 0 (fun _ => False) := by
  refine met_of (by decide) (Nat.le_of_ble_eq_true rfl) ?_
  intro p e s m below meth c ls hx hb hr hml hown hg hlocks hin hK hP hl
  have hown : s.vm.findClass RX3 = some m.cls := hown
  have hl : lv_has ls 5 [(0, .ref (b 0))] := hl
  refine lv_iconst (v := (nI 0)) hx hb dX3_walkNow_0 (by decide) ?_
  refine lv_istore_n (lv' := [(1, .int (nI 0)), (0, .ref (b 0))]) hx hb dX3_walkNow_1 rfl hl (by decide) rfl (fun ls hl => ?_)
  refine lv_iconst (v := (nI 0)) hx hb dX3_walkNow_2 (by decide) ?_
  refine lv_istore_n (lv' := [(2, .int (nI 0)), (1, .int (nI 0)), (0, .ref (b 0))]) hx hb dX3_walkNow_3 rfl hl (by decide) rfl (fun ls hl => ?_)
  refine lv_iconst (v := (nI 0)) hx hb dX3_walkNow_4 (by decide) ?_
  refine lv_istore_n (lv' := [(3, .int (nI 0)), (2, .int (nI 0)), (1, .int (nI 0)), (0, .ref (b 0))]) hx hb dX3_walkNow_5 rfl hl (by decide) rfl (fun ls hl => ?_)
  -- loop at 6
  refine loopR (nL := 5) (B := n) (I := fun t => True) (lv := fun t => [(0, .ref (b 0)), (1, .int (nI (wkF n (nmF kd ag) t))), (2, .int (nI (wkP n (nmF kd ag) t))), (3, .int (nI t))]) 0 (Nat.zero_le _) (trivial) (by show lv_has ls 5 [(0, .ref (b 0)), (1, .int (nI (wkF n (nmF kd ag) 0))), (2, .int (nI (wkP n (nmF kd ag) 0))), (3, .int (nI 0))]; exact lv_sub hl [3, 2, 1, 0] rfl) (fun t ls hj hI hl ih => ?_)
  have hl : lv_has ls 5 [(0, .ref (b 0)), (1, .int (nI (wkF n (nmF kd ag) t))), (2, .int (nI (wkP n (nmF kd ag) t))), (3, .int (nI t))] := hl
  have ih_6 := ih
  refine lv_iload_n hx hb dX3_walkNow_6 rfl (lv_at hl 3 rfl) ?_
  refine lv_aload_n hx hb dX3_walkNow_7 rfl (lv_at hl 0 rfl) ?_
  refine va_get (D := D) (ci := 3) (v := .int (nI n)) (C := RX3) (T := TX3) (N := 32) hx hb hg us_X3 hown hK.1 hP 0 MW_g0 rfl 1 (by decide) (hg _ gm_402) (fun _ h9 => h9) rfl dX3_walkNow_8 ?_
  refine nv_icmp_ge (tgt := 62) hx hb dX3_walkNow_11 (by omega) (by omega) (by decide) (fun c_11 => ?_) (fun c_11 => ?_)
  · skip
    refine lv_iload_n hx hb dX3_walkNow_62 rfl (lv_at hl 1 rfl) ?_
    exact rr_i hx hb hr hlocks dX3_walkNow_63 (by rw [show t = n by omega])
  · skip
    refine lv_iconst (v := (nI 0)) hx hb dX3_walkNow_14 (by decide) ?_
    refine lv_istore (lv' := [(4, .int (nI 0)), (0, .ref (b 0)), (1, .int (nI (wkF n (nmF kd ag) t))), (2, .int (nI (wkP n (nmF kd ag) t))), (3, .int (nI t))]) hx hb dX3_walkNow_15 hl (by decide) rfl (fun ls hl => ?_)
    obtain ⟨w1, w2, w3⟩ := hot_ok (v := (nmF kd ag)) (show t < n by omega)
    have w4 := wkP_lt (n := n) (v := (nmF kd ag)) (t := t) (by omega)
    -- loop at 17
    refine loopR (nL := 5) (B := (hotF n (nmF kd ag) t n)) (I := fun i => True) (lv := fun i => [(0, .ref (b 0)), (1, .int (nI (wkF n (nmF kd ag) t))), (2, .int (nI (wkP n (nmF kd ag) t))), (3, .int (nI t)), (4, .int (nI i))]) 0 (Nat.zero_le _) (trivial) (lv_sub hl [1, 2, 3, 4, 0] rfl) (fun i ls hj hI hl ih => ?_)
    have hl : lv_has ls 5 [(0, .ref (b 0)), (1, .int (nI (wkF n (nmF kd ag) t))), (2, .int (nI (wkP n (nmF kd ag) t))), (3, .int (nI t)), (4, .int (nI i))] := hl
    have ih_17 := ih
    refine lv_aload_n hx hb dX3_walkNow_17 rfl (lv_at hl 0 rfl) ?_
    refine lv_iload hx hb dX3_walkNow_18 (lv_at hl 4 rfl) ?_
    refine rdV (As := [.int (nI i)]) (rest := []) hx hb hml hown hg (c_X3_orderOf l D cI cB aS _ st n td nd nh pl bs kd ag bo pa dm dn hh hn pg sv sd ik ks ktd knd knh kbs kag kbo kpa kdm kdn khh khn hf i (by first | assumption | omega) (by first | assumption | omega)) gm_518 vf_X3_orderOf ⟨Nat.le_of_ble_eq_true rfl, Nat.le_of_ble_eq_true rfl⟩ ⟨rfl, rfl⟩ ⟨Nat.zero_le _, Nat.zero_le _⟩ (RP.preV hK hP (q0 := 0) (ci := 3) MW_g0 rfl) rfl hl.1 rfl (Nat.le_of_ble_eq_true rfl) dX3_walkNow_20 ?_
    refine lv_iload_n hx hb dX3_walkNow_23 rfl (lv_at hl 3 rfl) ?_
    refine nv_icmp_eq (tgt := 33) hx hb dX3_walkNow_24 (by have := ordF_le (n := n) (v := (nmF kd ag)) (h := i); omega) (by omega) (by decide) (fun c_24 => ?_) (fun c_24 => ?_)
    · skip
      have w5 := w3 i (by omega) c_24
      subst w5
      refine lv_iload_n hx hb dX3_walkNow_33 rfl (lv_at hl 1 rfl) ?_
      refine lv_iload hx hb dX3_walkNow_34 (lv_at hl 4 rfl) ?_
      refine lv_iload_n hx hb dX3_walkNow_36 rfl (lv_at hl 2 rfl) ?_
      refine nv_icmp_le (tgt := 47) hx hb dX3_walkNow_37 (by omega) (by omega) (by decide) (fun c_37 => ?_) (fun c_37 => ?_)
      · skip
        refine lv_iload_n hx hb dX3_walkNow_47 rfl (lv_at hl 2 rfl) ?_
        refine lv_iload hx hb dX3_walkNow_48 (lv_at hl 4 rfl) ?_
        refine nv_isub hx hb dX3_walkNow_50 (by omega) ?_
        refine nv_iadd hx hb dX3_walkNow_51 ?_
        refine lv_istore_n (lv' := [(1, .int (nI (wkF n (nmF kd ag) t + ((wkP n (nmF kd ag) t) - (hotF n (nmF kd ag) t n))))), (0, .ref (b 0)), (2, .int (nI (wkP n (nmF kd ag) t))), (3, .int (nI t)), (4, .int (nI (hotF n (nmF kd ag) t n)))]) hx hb dX3_walkNow_52 rfl hl (by decide) rfl (fun ls hl => ?_)
        refine lv_iload hx hb dX3_walkNow_53 (lv_at hl 4 rfl) ?_
        refine lv_istore_n (lv' := [(2, .int (nI (hotF n (nmF kd ag) t n))), (1, .int (nI (wkF n (nmF kd ag) t + ((wkP n (nmF kd ag) t) - (hotF n (nmF kd ag) t n))))), (0, .ref (b 0)), (3, .int (nI t)), (4, .int (nI (hotF n (nmF kd ag) t n)))]) hx hb dX3_walkNow_55 rfl hl (by decide) rfl (fun ls hl => ?_)
        refine lv_iinc (v := (nI (t + 1))) (lv' := [(3, .int (nI (t + 1))), (2, .int (nI (hotF n (nmF kd ag) t n))), (1, .int (nI (wkF n (nmF kd ag) t + ((wkP n (nmF kd ag) t) - (hotF n (nmF kd ag) t n))))), (0, .ref (b 0)), (4, .int (nI (hotF n (nmF kd ag) t n)))]) hx hb dX3_walkNow_56 hl (k := 3) rfl (nI_i1 _) (by decide) rfl (fun ls hl => ?_)
        refine lv_goto (tgt := 6) hx hb dX3_walkNow_59 (by decide) ?_
        exact ih_6 _ (by omega) (trivial) (by show lv_has ls 5 [(0, .ref (b 0)), (1, .int (nI (wkF n (nmF kd ag) (t + 1)))), (2, .int (nI (wkP n (nmF kd ag) (t + 1)))), (3, .int (nI (t + 1)))]; rw [show (wkF n (nmF kd ag) (t + 1)) = wkF n (nmF kd ag) t + ((wkP n (nmF kd ag) t) - (hotF n (nmF kd ag) t n)) from (by simp only [wkF, dstF]; rw [if_neg (by omega)]), show (wkP n (nmF kd ag) (t + 1)) = hotF n (nmF kd ag) t n from rfl]; exact lv_sub hl [3, 2, 1, 0] rfl)
      · skip
        refine lv_iload hx hb dX3_walkNow_40 (lv_at hl 4 rfl) ?_
        refine lv_iload_n hx hb dX3_walkNow_42 rfl (lv_at hl 2 rfl) ?_
        refine nv_isub hx hb dX3_walkNow_43 (by omega) ?_
        refine lv_goto (tgt := 51) hx hb dX3_walkNow_44 (by decide) ?_
        refine nv_iadd hx hb dX3_walkNow_51 ?_
        refine lv_istore_n (lv' := [(1, .int (nI (wkF n (nmF kd ag) t + ((hotF n (nmF kd ag) t n) - (wkP n (nmF kd ag) t))))), (0, .ref (b 0)), (2, .int (nI (wkP n (nmF kd ag) t))), (3, .int (nI t)), (4, .int (nI (hotF n (nmF kd ag) t n)))]) hx hb dX3_walkNow_52 rfl hl (by decide) rfl (fun ls hl => ?_)
        refine lv_iload hx hb dX3_walkNow_53 (lv_at hl 4 rfl) ?_
        refine lv_istore_n (lv' := [(2, .int (nI (hotF n (nmF kd ag) t n))), (1, .int (nI (wkF n (nmF kd ag) t + ((hotF n (nmF kd ag) t n) - (wkP n (nmF kd ag) t))))), (0, .ref (b 0)), (3, .int (nI t)), (4, .int (nI (hotF n (nmF kd ag) t n)))]) hx hb dX3_walkNow_55 rfl hl (by decide) rfl (fun ls hl => ?_)
        refine lv_iinc (v := (nI (t + 1))) (lv' := [(3, .int (nI (t + 1))), (2, .int (nI (hotF n (nmF kd ag) t n))), (1, .int (nI (wkF n (nmF kd ag) t + ((hotF n (nmF kd ag) t n) - (wkP n (nmF kd ag) t))))), (0, .ref (b 0)), (4, .int (nI (hotF n (nmF kd ag) t n)))]) hx hb dX3_walkNow_56 hl (k := 3) rfl (nI_i1 _) (by decide) rfl (fun ls hl => ?_)
        refine lv_goto (tgt := 6) hx hb dX3_walkNow_59 (by decide) ?_
        exact ih_6 _ (by omega) (trivial) (by show lv_has ls 5 [(0, .ref (b 0)), (1, .int (nI (wkF n (nmF kd ag) (t + 1)))), (2, .int (nI (wkP n (nmF kd ag) (t + 1)))), (3, .int (nI (t + 1)))]; rw [show (wkF n (nmF kd ag) (t + 1)) = wkF n (nmF kd ag) t + ((hotF n (nmF kd ag) t n) - (wkP n (nmF kd ag) t)) from (by simp only [wkF, dstF]; rw [if_pos (by omega)]), show (wkP n (nmF kd ag) (t + 1)) = hotF n (nmF kd ag) t n from rfl]; exact lv_sub hl [3, 2, 1, 0] rfl)
    · skip
      refine lv_iinc (v := (nI (i + 1))) (lv' := [(4, .int (nI (i + 1))), (0, .ref (b 0)), (1, .int (nI (wkF n (nmF kd ag) t))), (2, .int (nI (wkP n (nmF kd ag) t))), (3, .int (nI t))]) hx hb dX3_walkNow_27 hl (k := 4) rfl (nI_i1 _) (by decide) rfl (fun ls hl => ?_)
      refine lv_goto (tgt := 17) hx hb dX3_walkNow_30 (by decide) ?_
      exact ih_17 _ (by have : i ≠ hotF n (nmF kd ag) t n := (fun q => c_24 (by rw [q]; exact w2)); omega) (trivial) (lv_sub hl [1, 2, 3, 4, 0] rfl)
abbrev rm_X3_houseOf : Room := { frames := 2, cells := 0, slots := 0, locals := 44 }
theorem vf_X3_numberOn : vfacts RX3 yX3_numberOn cX3_numberOn 3 (some .int) 2 := ⟨⟨rfl, by decide +kernel, by decide +kernel, by decide +kernel⟩, gm_516, gm_715, gm_5, gm_517⟩
set_option maxRecDepth 100000 in
set_option maxHeartbeats 4000000 in
theorem c_X3_houseOf (l : Launch) (D : va_G) (cI cB : ClassId) (aS : Nat) (b : Nat → Nat) (st n td nd nh pl : Nat) (bs : Int32) (kd ag bo pa dm dn hh hn pg sv : Nat → Int32) (sd : Int64) (ik : Int32) (ks ktd knd knh : Nat) (kbs : Int32) (kag kbo kpa kdm kdn khh khn : Nat → Int32) (hf : Int64) (x : Int32) (d : Nat) (hn6 : n ≤ 6) (qd : d ≤ td) (qt : td ≤ 30) : Met l yX3_houseOf (mw yX3_houseOf cX3_houseOf 5 (some .int)) rm_X3_houseOf (RP D cI cB aS (MW cI cB b st n td nd nh pl bs kd ag bo pa dm dn hh hn pg sv sd ik ks ktd knd knh kbs kag kbo kpa kdm kdn khh khn hf) [.ref (b 0), .int x, .int (nI d)]) (vp_Si (fun r => r = (hwF n (fun h => numOn kd ag pa td h d) x))) 0 0 (fun _ => False) := by
  refine met_of (by decide) (Nat.le_of_ble_eq_true rfl) ?_
  intro p e s m below meth c ls hx hb hr hml hown hg hlocks hin hK hP hl
  have hown : s.vm.findClass RX3 = some m.cls := hown
  have hl : lv_has ls 5 [(0, .ref (b 0)), (1, .int x), (2, .int (nI d))] := hl
  refine lv_iconst (v := (-1)) hx hb dX3_houseOf_0 (by decide) ?_
  refine lv_istore_n (lv' := [(3, .int (-1)), (0, .ref (b 0)), (1, .int x), (2, .int (nI d))]) hx hb dX3_houseOf_1 rfl hl (by decide) rfl (fun ls hl => ?_)
  refine lv_aload_n hx hb dX3_houseOf_2 rfl (lv_at hl 1 rfl) ?_
  refine va_get (D := D) (ci := 3) (v := .int (nI n)) (C := RX3) (T := TX3) (N := 32) hx hb hg us_X3 hown hK.1 hP 0 MW_g0 rfl 1 (by decide) (hg _ gm_402) (fun _ h9 => h9) rfl dX3_houseOf_3 ?_
  refine lv_iconst (v := (nI 1)) hx hb dX3_houseOf_6 (by decide) ?_
  refine lv_isub hx hb dX3_houseOf_7 ?_
  refine lv_istore (lv' := [(4, .int ((nI n) - (nI 1))), (3, .int (-1)), (0, .ref (b 0)), (1, .int x), (2, .int (nI d))]) hx hb dX3_houseOf_8 hl (by decide) rfl (fun ls hl => ?_)
  -- loop at 10
  refine loopR (nL := 5) (B := n) (I := fun i => True) (lv := fun i => [(0, .ref (b 0)), (1, .int x), (2, .int (nI d)), (3, .int (ff (hwP (fun h => numOn kd ag pa td h d) x) (n - i) i)), (4, .int ((nI (n - i)) - (nI 1)))]) 0 (Nat.zero_le _) (trivial) (by show lv_has ls 5 [(0, .ref (b 0)), (1, .int x), (2, .int (nI d)), (3, .int (ff (hwP (fun h => numOn kd ag pa td h d) x) (n - 0) 0)), (4, .int ((nI (n - 0)) - (nI 1)))]; exact lv_sub hl [2, 3, 4, 1, 0] rfl) (fun i ls hj hI hl ih => ?_)
  have hl : lv_has ls 5 [(0, .ref (b 0)), (1, .int x), (2, .int (nI d)), (3, .int (ff (hwP (fun h => numOn kd ag pa td h d) x) (n - i) i)), (4, .int ((nI (n - i)) - (nI 1)))] := hl
  have ih_10 := ih
  refine lv_iload hx hb dX3_houseOf_10 (lv_at hl 4 rfl) ?_
  refine lv_if_lt (tgt := 39) hx hb dX3_houseOf_12 (by decide) (fun c_12 => ?_) (fun c_12 => ?_)
  · skip
    refine lv_iload_n hx hb dX3_houseOf_39 rfl (lv_at hl 3 rfl) ?_
    exact rr_i hx hb hr hlocks dX3_houseOf_40 (by unfold hwF; have e := sub1_neg (by omega) c_12; rw [show i = n by omega, Nat.sub_self])
  · skip
    obtain ⟨k, ek⟩ := sub1_pos (by omega) c_12
    rw [show (nI (n - i)) - (nI 1) = nI k from by rw [ek]; exact sub1_s k] at hl
    refine lv_aload_n hx hb dX3_houseOf_15 rfl (lv_at hl 0 rfl) ?_
    refine lv_iload hx hb dX3_houseOf_16 (lv_at hl 4 rfl) ?_
    refine lv_iload_n hx hb dX3_houseOf_18 rfl (lv_at hl 2 rfl) ?_
    refine rdV (As := [.int (nI k), .int (nI d)]) (rest := []) hx hb hml hown hg (c_X3_numberOn l D cI cB aS _ st n td nd nh pl bs kd ag bo pa dm dn hh hn pg sv sd ik ks ktd knd knh kbs kag kbo kpa kdm kdn khh khn hf k d (by first | assumption | omega) (by first | assumption | omega) (by first | assumption | omega)) gm_515 vf_X3_numberOn ⟨Nat.le_of_ble_eq_true rfl, Nat.le_of_ble_eq_true rfl⟩ ⟨rfl, rfl⟩ ⟨Nat.zero_le _, Nat.zero_le _⟩ (RP.preV hK hP (q0 := 0) (ci := 3) MW_g0 rfl) rfl hl.1 rfl (Nat.le_of_ble_eq_true rfl) dX3_houseOf_19 ?_
    refine lv_iload_n hx hb dX3_houseOf_22 rfl (lv_at hl 1 rfl) ?_
    refine lv_icmp_ne (tgt := 31) hx hb dX3_houseOf_23 (by decide) (fun c_23 => ?_) (fun c_23 => ?_)
    · skip
      refine lv_iload_n hx hb dX3_houseOf_31 rfl (lv_at hl 3 rfl) ?_
      refine lv_istore_n (lv' := [(3, .int (ff (hwP (fun h => numOn kd ag pa td h d) x) (n - i) i)), (0, .ref (b 0)), (1, .int x), (2, .int (nI d)), (4, .int (nI k))]) hx hb dX3_houseOf_32 rfl hl (by decide) rfl (fun ls hl => ?_)
      refine lv_iinc (v := ((nI k) + Int32.ofInt (-1))) (lv' := [(4, .int ((nI k) + Int32.ofInt (-1))), (3, .int (ff (hwP (fun h => numOn kd ag pa td h d) x) (n - i) i)), (0, .ref (b 0)), (1, .int x), (2, .int (nI d))]) hx hb dX3_houseOf_33 hl (k := 4) rfl rfl (by decide) rfl (fun ls hl => ?_)
      refine lv_goto (tgt := 10) hx hb dX3_houseOf_36 (by decide) ?_
      exact ih_10 _ (by omega) (trivial) (by show lv_has ls 5 [(0, .ref (b 0)), (1, .int x), (2, .int (nI d)), (3, .int (ff (hwP (fun h => numOn kd ag pa td h d) x) (n - (i + 1)) (i + 1))), (4, .int ((nI (n - (i + 1))) - (nI 1)))]; rw [show (ff (hwP (fun h => numOn kd ag pa td h d) x) (n - (i + 1)) (i + 1)) = ff (hwP (fun h => numOn kd ag pa td h d) x) (n - i) i from (by rw [show n - (i + 1) = k by omega]; exact ff_f_at c_23 (by omega)), show ((nI (n - (i + 1))) - (nI 1)) = (nI k) + Int32.ofInt (-1) from (by rw [show n - (i + 1) = k by omega]; exact (dec_eq k).symm)]; exact lv_sub hl [2, 3, 4, 1, 0] rfl)
    · skip
      refine lv_iload hx hb dX3_houseOf_26 (lv_at hl 4 rfl) ?_
      refine lv_goto (tgt := 32) hx hb dX3_houseOf_28 (by decide) ?_
      refine lv_istore_n (lv' := [(3, .int (nI k)), (0, .ref (b 0)), (1, .int x), (2, .int (nI d)), (4, .int (nI k))]) hx hb dX3_houseOf_32 rfl hl (by decide) rfl (fun ls hl => ?_)
      refine lv_iinc (v := ((nI k) + Int32.ofInt (-1))) (lv' := [(4, .int ((nI k) + Int32.ofInt (-1))), (3, .int (nI k)), (0, .ref (b 0)), (1, .int x), (2, .int (nI d))]) hx hb dX3_houseOf_33 hl (k := 4) rfl rfl (by decide) rfl (fun ls hl => ?_)
      refine lv_goto (tgt := 10) hx hb dX3_houseOf_36 (by decide) ?_
      exact ih_10 _ (by omega) (trivial) (by show lv_has ls 5 [(0, .ref (b 0)), (1, .int x), (2, .int (nI d)), (3, .int (ff (hwP (fun h => numOn kd ag pa td h d) x) (n - (i + 1)) (i + 1))), (4, .int ((nI (n - (i + 1))) - (nI 1)))]; rw [show ((ff (hwP (fun h => numOn kd ag pa td h d) x) (n - (i + 1)) (i + 1))) = (nI k) from (by rw [show n - (i + 1) = k by omega]; exact ff_t (decide_eq_true c_23)), show ((nI (n - (i + 1))) - (nI 1)) = (nI k) + Int32.ofInt (-1) from (by rw [show n - (i + 1) = k by omega]; exact (dec_eq k).symm)]; exact lv_sub hl [2, 3, 4, 1, 0] rfl)
abbrev rm_X3_owes : Room := { frames := 3, cells := 0, slots := 0, locals := 68 }
theorem vf_X3_houseOf : vfacts RX3 yX3_houseOf cX3_houseOf 5 (some .int) 2 := ⟨⟨rfl, by decide +kernel, by decide +kernel, by decide +kernel⟩, gm_513, gm_714, gm_5, gm_514⟩
set_option maxRecDepth 100000 in
set_option maxHeartbeats 4000000 in
theorem c_X3_owes (l : Launch) (D : va_G) (cI cB : ClassId) (aS : Nat) (b : Nat → Nat) (st n td nd nh pl : Nat) (bs : Int32) (kd ag bo pa dm dn hh hn pg sv : Nat → Int32) (sd : Int64) (ik : Int32) (ks ktd knd knh : Nat) (kbs : Int32) (kag kbo kpa kdm kdn khh khn : Nat → Int32) (hf : Int64) (h : Nat) (qh : h < n) (hn6 : n ≤ 6) (qnd : nd ≤ 6) (qt : td ≤ 30) : Met l yX3_owes (mw yX3_owes cX3_owes 4 (some .int)) rm_X3_owes (RP D cI cB aS (MW cI cB b st n td nd nh pl bs kd ag bo pa dm dn hh hn pg sv sd ik ks ktd knd knh kbs kag kbo kpa kdm kdn khh khn hf) [.ref (b 0), .int (nI h)]) (vp_Si (fun r => r = (owF n (nmF kd ag) dm dn nd h))) 0 0 (fun _ => False) := by
  refine met_of (by decide) (Nat.le_of_ble_eq_true rfl) ?_
  intro p e s m below meth c ls hx hb hr hml hown hg hlocks hin hK hP hl
  have hown : s.vm.findClass RX3 = some m.cls := hown
  have hl : lv_has ls 4 [(0, .ref (b 0)), (1, .int (nI h))] := hl
  refine lv_iconst (v := (nI 0)) hx hb dX3_owes_0 (by decide) ?_
  refine lv_istore_n (lv' := [(2, .int (nI 0)), (0, .ref (b 0)), (1, .int (nI h))]) hx hb dX3_owes_1 rfl hl (by decide) rfl (fun ls hl => ?_)
  refine lv_iconst (v := (nI 0)) hx hb dX3_owes_2 (by decide) ?_
  refine lv_istore_n (lv' := [(3, .int (nI 0)), (2, .int (nI 0)), (0, .ref (b 0)), (1, .int (nI h))]) hx hb dX3_owes_3 rfl hl (by decide) rfl (fun ls hl => ?_)
  -- loop at 4
  refine loopR (nL := 4) (B := nd) (I := fun i => True) (lv := fun i => [(0, .ref (b 0)), (1, .int (nI h)), (2, .int (sm (fun k => if hwF n (nmF kd ag) (dn k) = nI h then dm k else nI 0) i)), (3, .int (nI i))]) 0 (Nat.zero_le _) (trivial) (by show lv_has ls 4 [(0, .ref (b 0)), (1, .int (nI h)), (2, .int (sm (fun k => if hwF n (nmF kd ag) (dn k) = nI h then dm k else nI 0) 0)), (3, .int (nI 0))]; exact lv_sub hl [2, 3, 1, 0] rfl) (fun i ls hj hI hl ih => ?_)
  have hl : lv_has ls 4 [(0, .ref (b 0)), (1, .int (nI h)), (2, .int (sm (fun k => if hwF n (nmF kd ag) (dn k) = nI h then dm k else nI 0) i)), (3, .int (nI i))] := hl
  have ih_4 := ih
  refine lv_iload_n hx hb dX3_owes_4 rfl (lv_at hl 3 rfl) ?_
  refine lv_aload_n hx hb dX3_owes_5 rfl (lv_at hl 0 rfl) ?_
  refine va_get (D := D) (ci := 3) (v := .int (nI nd)) (C := RX3) (T := TX3) (N := 32) hx hb hg us_X3 hown hK.1 hP 0 MW_g0 rfl 8 (by decide) (hg _ gm_409) (fun _ h9 => h9) rfl dX3_owes_6 ?_
  refine nv_icmp_ge (tgt := 49) hx hb dX3_owes_9 (by omega) (by omega) (by decide) (fun c_9 => ?_) (fun c_9 => ?_)
  · skip
    refine lv_iload_n hx hb dX3_owes_49 rfl (lv_at hl 2 rfl) ?_
    exact rr_i hx hb hr hlocks dX3_owes_50 (by unfold owF; rw [show i = nd by omega])
  · skip
    refine lv_iload_n hx hb dX3_owes_12 rfl (lv_at hl 2 rfl) ?_
    refine lv_aload_n hx hb dX3_owes_13 rfl (lv_at hl 0 rfl) ?_
    refine lv_aload_n hx hb dX3_owes_14 rfl (lv_at hl 0 rfl) ?_
    refine va_get (D := D) (ci := 3) (v := .ref (b 6)) (C := RX3) (T := TX3) (N := 32) hx hb hg us_X3 hown hK.1 hP 0 MW_g0 rfl 10 (by decide) (hg _ gm_411) (fun _ h9 => h9) rfl dX3_owes_15 ?_
    refine lv_iload_n hx hb dX3_owes_18 rfl (lv_at hl 3 rfl) ?_
    refine nv_iald hx hb hK.1 hP 6 0 MW_g6 rfl (by omega) (by omega) dX3_owes_19 ?_
    refine lv_aload_n hx hb dX3_owes_20 rfl (lv_at hl 0 rfl) ?_
    refine va_get (D := D) (ci := 3) (v := .int (nI td)) (C := RX3) (T := TX3) (N := 32) hx hb hg us_X3 hown hK.1 hP 0 MW_g0 rfl 6 (by decide) (hg _ gm_407) (fun _ h9 => h9) rfl dX3_owes_21 ?_
    refine rdV (As := [.int (dn i), .int (nI td)]) (rest := [.int (sm (fun k => if hwF n (nmF kd ag) (dn k) = nI h then dm k else nI 0) i)]) hx hb hml hown hg (c_X3_houseOf l D cI cB aS _ st n td nd nh pl bs kd ag bo pa dm dn hh hn pg sv sd ik ks ktd knd knh kbs kag kbo kpa kdm kdn khh khn hf (dn i) td (by first | assumption | omega) (by first | assumption | omega) (by first | assumption | omega)) gm_512 vf_X3_houseOf ⟨Nat.le_of_ble_eq_true rfl, Nat.le_of_ble_eq_true rfl⟩ ⟨rfl, rfl⟩ ⟨Nat.zero_le _, Nat.zero_le _⟩ (RP.preV hK hP (q0 := 0) (ci := 3) MW_g0 rfl) rfl hl.1 rfl (Nat.le_of_ble_eq_true rfl) dX3_owes_24 ?_
    rw [show ((hwF n (fun h => numOn kd ag pa td h td) (dn i)) : Int32) = (hwF n (nmF kd ag) (dn i)) from hwF_now]
    refine lv_iload_n hx hb dX3_owes_27 rfl (lv_at hl 1 rfl) ?_
    refine lv_icmp_ne (tgt := 40) hx hb dX3_owes_28 (by decide) (fun c_28 => ?_) (fun c_28 => ?_)
    · skip
      refine lv_iconst (v := (nI 0)) hx hb dX3_owes_40 (by decide) ?_
      refine lv_iadd hx hb dX3_owes_41 ?_
      refine lv_istore_n (lv' := [(2, .int ((sm (fun k => if hwF n (nmF kd ag) (dn k) = nI h then dm k else nI 0) i) + (nI 0))), (0, .ref (b 0)), (1, .int (nI h)), (3, .int (nI i))]) hx hb dX3_owes_42 rfl hl (by decide) rfl (fun ls hl => ?_)
      refine lv_iinc (v := (nI (i + 1))) (lv' := [(3, .int (nI (i + 1))), (2, .int ((sm (fun k => if hwF n (nmF kd ag) (dn k) = nI h then dm k else nI 0) i) + (nI 0))), (0, .ref (b 0)), (1, .int (nI h))]) hx hb dX3_owes_43 hl (k := 3) rfl (nI_i1 _) (by decide) rfl (fun ls hl => ?_)
      refine lv_goto (tgt := 4) hx hb dX3_owes_46 (by decide) ?_
      exact ih_4 _ (by omega) (trivial) (by show lv_has ls 4 [(0, .ref (b 0)), (1, .int (nI h)), (2, .int (sm (fun k => if hwF n (nmF kd ag) (dn k) = nI h then dm k else nI 0) (i + 1))), (3, .int (nI (i + 1)))]; rw [show (sm (fun k => if hwF n (nmF kd ag) (dn k) = nI h then dm k else nI 0) (i + 1)) = (sm (fun k => if hwF n (nmF kd ag) (dn k) = nI h then dm k else nI 0) i) + (nI 0) from (by simp only [sm]; rw [if_neg c_28])]; exact lv_sub hl [2, 3, 1, 0] rfl)
    · skip
      refine lv_aload_n hx hb dX3_owes_31 rfl (lv_at hl 0 rfl) ?_
      refine va_get (D := D) (ci := 3) (v := .ref (b 5)) (C := RX3) (T := TX3) (N := 32) hx hb hg us_X3 hown hK.1 hP 0 MW_g0 rfl 9 (by decide) (hg _ gm_410) (fun _ h9 => h9) rfl dX3_owes_32 ?_
      refine lv_iload_n hx hb dX3_owes_35 rfl (lv_at hl 3 rfl) ?_
      refine nv_iald hx hb hK.1 hP 5 0 MW_g5 rfl (by omega) (by omega) dX3_owes_36 ?_
      refine lv_goto (tgt := 41) hx hb dX3_owes_37 (by decide) ?_
      refine lv_iadd hx hb dX3_owes_41 ?_
      refine lv_istore_n (lv' := [(2, .int ((sm (fun k => if hwF n (nmF kd ag) (dn k) = nI h then dm k else nI 0) i) + (dm i))), (0, .ref (b 0)), (1, .int (nI h)), (3, .int (nI i))]) hx hb dX3_owes_42 rfl hl (by decide) rfl (fun ls hl => ?_)
      refine lv_iinc (v := (nI (i + 1))) (lv' := [(3, .int (nI (i + 1))), (2, .int ((sm (fun k => if hwF n (nmF kd ag) (dn k) = nI h then dm k else nI 0) i) + (dm i))), (0, .ref (b 0)), (1, .int (nI h))]) hx hb dX3_owes_43 hl (k := 3) rfl (nI_i1 _) (by decide) rfl (fun ls hl => ?_)
      refine lv_goto (tgt := 4) hx hb dX3_owes_46 (by decide) ?_
      exact ih_4 _ (by omega) (trivial) (by show lv_has ls 4 [(0, .ref (b 0)), (1, .int (nI h)), (2, .int (sm (fun k => if hwF n (nmF kd ag) (dn k) = nI h then dm k else nI 0) (i + 1))), (3, .int (nI (i + 1)))]; rw [show (sm (fun k => if hwF n (nmF kd ag) (dn k) = nI h then dm k else nI 0) (i + 1)) = (sm (fun k => if hwF n (nmF kd ag) (dn k) = nI h then dm k else nI 0) i) + (dm i) from (by simp only [sm]; rw [if_pos c_28])]; exact lv_sub hl [2, 3, 1, 0] rfl)
abbrev rm_X3_houseNow : Room := { frames := 4, cells := 0, slots := 0, locals := 91 }
theorem vf_X3_owes : vfacts RX3 yX3_owes cX3_owes 4 (some .int) 1 := ⟨⟨rfl, by decide +kernel, by decide +kernel, by decide +kernel⟩, gm_510, gm_713, gm_5, gm_511⟩
set_option maxRecDepth 100000 in
set_option maxHeartbeats 4000000 in
theorem c_X3_houseNow (l : Launch) (D : va_G) (cI cB : ClassId) (aS : Nat) (b : Nat → Nat) (st n td nd nh pl : Nat) (bs : Int32) (kd ag bo pa dm dn hh hn pg sv : Nat → Int32) (sd : Int64) (ik : Int32) (ks ktd knd knh : Nat) (kbs : Int32) (kag kbo kpa kdm kdn khh khn : Nat → Int32) (hf : Int64) (h w : Nat) (qh : h < n) (hn6 : n ≤ 6) (qnd : nd ≤ 6) (qt : td ≤ 30) (qw : w ≤ 5) : Met l yX3_houseNow (mw yX3_houseNow cX3_houseNow 3 (some .int)) rm_X3_houseNow (RP D cI cB aS (MW cI cB b st n td nd nh pl bs kd ag bo pa dm dn hh hn pg sv sd ik ks ktd knd knh kbs kag kbo kpa kdm kdn khh khn hf) [.ref (b 0), .int (nI h), .int (nI w)]) (vp_Si (fun r => r = (abF n kd ag bo dm dn nd h w))) 0 0 (fun _ => False) := by
  refine met_of (by decide) (Nat.le_of_ble_eq_true rfl) ?_
  intro p e s m below meth c ls hx hb hr hml hown hg hlocks hin hK hP hl
  have hown : s.vm.findClass RX3 = some m.cls := hown
  have hl : lv_has ls 3 [(0, .ref (b 0)), (1, .int (nI h)), (2, .int (nI w))] := hl
  refine lv_iload_n hx hb dX3_houseNow_0 rfl (lv_at hl 2 rfl) ?_
  rcases (show w = 0 ∨ w = 1 ∨ w = 2 ∨ w = 3 ∨ w = 4 ∨ w = 5 by omega) with rfl | rfl | rfl | rfl | rfl | rfl
  · refine lv_tableIn (off := 35) (tgt := 36) hx hb dX3_houseNow_1 (by decide) (by decide) rfl (by decide) ?_
    refine lv_aload_n hx hb dX3_houseNow_36 rfl (lv_at hl 0 rfl) ?_
    refine va_get (D := D) (ci := 3) (v := .ref (b 1)) (C := RX3) (T := TX3) (N := 32) hx hb hg us_X3 hown hK.1 hP 0 MW_g0 rfl 2 (by decide) (hg _ gm_403) (fun _ h9 => h9) rfl dX3_houseNow_37 ?_
    refine lv_iload_n hx hb dX3_houseNow_40 rfl (lv_at hl 1 rfl) ?_
    refine nv_iald hx hb hK.1 hP 1 0 MW_g1 rfl (by omega) (by omega) dX3_houseNow_41 ?_
    exact rr_i hx hb hr hlocks dX3_houseNow_42 rfl
  · refine lv_tableIn (off := 42) (tgt := 43) hx hb dX3_houseNow_1 (by decide) (by decide) rfl (by decide) ?_
    refine lv_aload_n hx hb dX3_houseNow_43 rfl (lv_at hl 0 rfl) ?_
    refine va_get (D := D) (ci := 3) (v := .ref (b 2)) (C := RX3) (T := TX3) (N := 32) hx hb hg us_X3 hown hK.1 hP 0 MW_g0 rfl 3 (by decide) (hg _ gm_404) (fun _ h9 => h9) rfl dX3_houseNow_44 ?_
    refine lv_iload_n hx hb dX3_houseNow_47 rfl (lv_at hl 1 rfl) ?_
    refine nv_iald hx hb hK.1 hP 2 0 MW_g2 rfl (by omega) (by omega) dX3_houseNow_48 ?_
    exact rr_i hx hb hr hlocks dX3_houseNow_49 rfl
  · refine lv_tableIn (off := 49) (tgt := 50) hx hb dX3_houseNow_1 (by decide) (by decide) rfl (by decide) ?_
    refine lv_aload_n hx hb dX3_houseNow_50 rfl (lv_at hl 0 rfl) ?_
    refine lv_iload_n hx hb dX3_houseNow_51 rfl (lv_at hl 1 rfl) ?_
    refine rdV (As := [.int (nI h)]) (rest := []) hx hb hml hown hg (c_X3_number l D cI cB aS _ st n td nd nh pl bs kd ag bo pa dm dn hh hn pg sv sd ik ks ktd knd knh kbs kag kbo kpa kdm kdn khh khn hf h (by first | assumption | omega)) gm_503 vf_X3_number ⟨Nat.le_of_ble_eq_true rfl, Nat.le_of_ble_eq_true rfl⟩ ⟨rfl, rfl⟩ ⟨Nat.zero_le _, Nat.zero_le _⟩ (RP.preV hK hP (q0 := 0) (ci := 3) MW_g0 rfl) rfl hl.1 rfl (Nat.le_of_ble_eq_true rfl) dX3_houseNow_52 ?_
    exact rr_i hx hb hr hlocks dX3_houseNow_55 rfl
  · refine lv_tableIn (off := 55) (tgt := 56) hx hb dX3_houseNow_1 (by decide) (by decide) rfl (by decide) ?_
    refine lv_aload_n hx hb dX3_houseNow_56 rfl (lv_at hl 0 rfl) ?_
    refine va_get (D := D) (ci := 3) (v := .ref (b 3)) (C := RX3) (T := TX3) (N := 32) hx hb hg us_X3 hown hK.1 hP 0 MW_g0 rfl 4 (by decide) (hg _ gm_405) (fun _ h9 => h9) rfl dX3_houseNow_57 ?_
    refine lv_iload_n hx hb dX3_houseNow_60 rfl (lv_at hl 1 rfl) ?_
    refine nv_iald hx hb hK.1 hP 3 0 MW_g3 rfl (by omega) (by omega) dX3_houseNow_61 ?_
    exact rr_i hx hb hr hlocks dX3_houseNow_62 rfl
  · refine lv_tableIn (off := 62) (tgt := 63) hx hb dX3_houseNow_1 (by decide) (by decide) rfl (by decide) ?_
    refine lv_aload_n hx hb dX3_houseNow_63 rfl (lv_at hl 0 rfl) ?_
    refine lv_iload_n hx hb dX3_houseNow_64 rfl (lv_at hl 1 rfl) ?_
    refine rdV (As := [.int (nI h)]) (rest := []) hx hb hml hown hg (c_X3_owes l D cI cB aS _ st n td nd nh pl bs kd ag bo pa dm dn hh hn pg sv sd ik ks ktd knd knh kbs kag kbo kpa kdm kdn khh khn hf h (by first | assumption | omega) (by first | assumption | omega) (by first | assumption | omega) (by first | assumption | omega)) gm_509 vf_X3_owes ⟨Nat.le_of_ble_eq_true rfl, Nat.le_of_ble_eq_true rfl⟩ ⟨rfl, rfl⟩ ⟨Nat.zero_le _, Nat.zero_le _⟩ (RP.preV hK hP (q0 := 0) (ci := 3) MW_g0 rfl) rfl hl.1 rfl (Nat.le_of_ble_eq_true rfl) dX3_houseNow_65 ?_
    exact rr_i hx hb hr hlocks dX3_houseNow_68 rfl
  · refine lv_tableOut (tgt := 69) hx hb dX3_houseNow_1 (by decide) (by decide) ?_
    refine lv_aload_n hx hb dX3_houseNow_69 rfl (lv_at hl 0 rfl) ?_
    refine lv_iload_n hx hb dX3_houseNow_70 rfl (lv_at hl 1 rfl) ?_
    refine rdV (As := [.int (nI h)]) (rest := []) hx hb hml hown hg (c_X3_orderOf l D cI cB aS _ st n td nd nh pl bs kd ag bo pa dm dn hh hn pg sv sd ik ks ktd knd knh kbs kag kbo kpa kdm kdn khh khn hf h (by first | assumption | omega) (by first | assumption | omega)) gm_518 vf_X3_orderOf ⟨Nat.le_of_ble_eq_true rfl, Nat.le_of_ble_eq_true rfl⟩ ⟨rfl, rfl⟩ ⟨Nat.zero_le _, Nat.zero_le _⟩ (RP.preV hK hP (q0 := 0) (ci := 3) MW_g0 rfl) rfl hl.1 rfl (Nat.le_of_ble_eq_true rfl) dX3_houseNow_71 ?_
    exact rr_i hx hb hr hlocks dX3_houseNow_74 rfl
abbrev rm_X3_about : Room := { frames := 5, cells := 0, slots := 0, locals := 113 }
theorem vf_X3_isHouse : vfacts RX3 yX3_isHouse cX3_isHouse 2 (some .boolean) 1 := ⟨⟨rfl, by decide +kernel, by decide +kernel, by decide +kernel⟩, gm_498, gm_709, gm_5, gm_499⟩
theorem vf_X3_houseNow : vfacts RX3 yX3_houseNow cX3_houseNow 3 (some .int) 2 := ⟨⟨rfl, by decide +kernel, by decide +kernel, by decide +kernel⟩, gm_501, gm_710, gm_5, gm_502⟩
set_option maxRecDepth 100000 in
set_option maxHeartbeats 4000000 in
theorem c_X3_about (l : Launch) (D : va_G) (cI cB : ClassId) (aS : Nat) (b : Nat → Nat) (st n td nd nh pl : Nat) (bs : Int32) (kd ag bo pa dm dn hh hn pg sv : Nat → Int32) (sd : Int64) (ik : Int32) (ks ktd knd knh : Nat) (kbs : Int32) (kag kbo kpa kdm kdn khh khn : Nat → Int32) (hf : Int64) (x w : Int32) (hn6 : n ≤ 6) (qnd : nd ≤ 6) (qt : td ≤ 30) : Met l yX3_about (mw yX3_about cX3_about 3 (some .int)) rm_X3_about (RP D cI cB aS (MW cI cB b st n td nd nh pl bs kd ag bo pa dm dn hh hn pg sv sd ik ks ktd knd knh kbs kag kbo kpa kdm kdn khh khn hf) [.ref (b 0), .int x, .int w]) (vp_Si (fun r => r = (abtF n kd ag bo dm dn nd x w))) 0 0 (fun _ => False) := by
  refine met_of (by decide) (Nat.le_of_ble_eq_true rfl) ?_
  intro p e s m below meth c ls hx hb hr hml hown hg hlocks hin hK hP hl
  have hown : s.vm.findClass RX3 = some m.cls := hown
  have hl : lv_has ls 3 [(0, .ref (b 0)), (1, .int x), (2, .int w)] := hl
  refine lv_aload_n hx hb dX3_about_0 rfl (lv_at hl 0 rfl) ?_
  refine lv_iload_n hx hb dX3_about_1 rfl (lv_at hl 1 rfl) ?_
  refine rdV (As := [.int x]) (rest := []) hx hb hml hown hg (c_X3_isHouse l D cI cB aS _ st n td nd nh pl bs kd ag bo pa dm dn hh hn pg sv sd ik ks ktd knd knh kbs kag kbo kpa kdm kdn khh khn hf x (by first | assumption | omega)) gm_497 vf_X3_isHouse ⟨Nat.le_of_ble_eq_true rfl, Nat.le_of_ble_eq_true rfl⟩ ⟨rfl, rfl⟩ ⟨Nat.zero_le _, Nat.zero_le _⟩ (RP.preV hK hP (q0 := 0) (ci := 3) MW_g0 rfl) rfl hl.1 rfl (Nat.le_of_ble_eq_true rfl) dX3_about_2 ?_
  refine bv_if_ne (tgt := 13) hx hb dX3_about_5 (by decide) (fun c_5 => ?_) (fun c_5 => ?_)
  · skip
    obtain ⟨j, qj, ex⟩ := hIn_of c_5 (by omega)
    subst ex
    refine lv_iload_n hx hb dX3_about_13 rfl (lv_at hl 2 rfl) ?_
    refine lv_iconst (v := (nI 0)) hx hb dX3_about_14 (by decide) ?_
    refine lv_iconst (v := (nI 5)) hx hb dX3_about_15 (by decide) ?_
    refine rdS (As := [.int w, .int (nI 0), .int (nI 5)]) (rest := []) hx hb hml hown hg (c_X3_within l D cI cB aS w (nI 0) (nI 5)) gm_469 sf_X3_within ⟨Nat.le_of_ble_eq_true rfl, Nat.le_of_ble_eq_true rfl⟩ ⟨rfl, rfl⟩ ⟨Nat.zero_le _, Nat.zero_le _⟩ (RP.preS hK (fun k q h => by simp at h)) rfl hl.1 rfl (Nat.le_of_ble_eq_true rfl) dX3_about_16 ?_
    refine bv_if_eq (tgt := 31) hx hb dX3_about_19 (by decide) (fun c_19 => ?_) (fun c_19 => ?_)
    · skip
      refine lv_bipush (v := (-102)) hx hb dX3_about_31 (by decide) ?_
      exact rr_i hx hb hr hlocks dX3_about_33 ((abt_2 qj hn6 c_19).symm)
    · skip
      obtain ⟨k, qk, ek⟩ := x_in_of (k := 5) c_19 (by omega)
      subst ek
      refine lv_aload_n hx hb dX3_about_22 rfl (lv_at hl 0 rfl) ?_
      refine lv_iload_n hx hb dX3_about_23 rfl (lv_at hl 1 rfl) ?_
      refine lv_iload_n hx hb dX3_about_24 rfl (lv_at hl 2 rfl) ?_
      refine rdV (As := [.int (nI j), .int (nI k)]) (rest := []) hx hb hml hown hg (c_X3_houseNow l D cI cB aS _ st n td nd nh pl bs kd ag bo pa dm dn hh hn pg sv sd ik ks ktd knd knh kbs kag kbo kpa kdm kdn khh khn hf j k (by first | assumption | omega) (by first | assumption | omega) (by first | assumption | omega) (by first | assumption | omega) (by first | assumption | omega)) gm_500 vf_X3_houseNow ⟨Nat.le_of_ble_eq_true rfl, Nat.le_of_ble_eq_true rfl⟩ ⟨rfl, rfl⟩ ⟨Nat.zero_le _, Nat.zero_le _⟩ (RP.preV hK hP (q0 := 0) (ci := 3) MW_g0 rfl) rfl hl.1 rfl (Nat.le_of_ble_eq_true rfl) dX3_about_25 ?_
      refine lv_goto (tgt := 33) hx hb dX3_about_28 (by decide) ?_
      exact rr_i hx hb hr hlocks dX3_about_33 ((abt_ok qj hn6 qk).symm)
  · skip
    refine lv_bipush (v := (-101)) hx hb dX3_about_8 (by decide) ?_
    refine lv_goto (tgt := 33) hx hb dX3_about_10 (by decide) ?_
    exact rr_i hx hb hr hlocks dX3_about_33 ((abt_1 c_5).symm)
abbrev rm_X3_as : Room := { frames := 2, cells := 0, slots := 0, locals := 43 }
set_option maxRecDepth 100000 in
set_option maxHeartbeats 4000000 in
theorem c_X3_as (l : Launch) (D : va_G) (cI cB : ClassId) (aS : Nat) (b : Nat → Nat) (st n td nd nh pl : Nat) (bs : Int32) (kd ag bo pa dm dn hh hn pg sv : Nat → Int32) (sd : Int64) (ik : Int32) (ks ktd knd knh : Nat) (kbs : Int32) (kag kbo kpa kdm kdn khh khn : Nat → Int32) (hf : Int64) (x k : Int32) (hn6 : n ≤ 6) : Met l yX3_as (mw yX3_as cX3_as 4 (some .int)) rm_X3_as (RP D cI cB aS (MW cI cB b st n td nd nh pl bs kd ag bo pa dm dn hh hn pg sv sd ik ks ktd knd knh kbs kag kbo kpa kdm kdn khh khn hf) [.ref (b 0), .int x, .int k]) (vp_Si (fun r => r = (asF n kd x k))) 0 0 (fun _ => False) := by
  refine met_of (by decide) (Nat.le_of_ble_eq_true rfl) ?_
  intro p e s m below meth c ls hx hb hr hml hown hg hlocks hin hK hP hl
  have hown : s.vm.findClass RX3 = some m.cls := hown
  have hl : lv_has ls 4 [(0, .ref (b 0)), (1, .int x), (2, .int k)] := hl
  refine lv_aload_n hx hb dX3_as_0 rfl (lv_at hl 0 rfl) ?_
  refine lv_iload_n hx hb dX3_as_1 rfl (lv_at hl 1 rfl) ?_
  refine rdV (As := [.int x]) (rest := []) hx hb hml hown hg (c_X3_isHouse l D cI cB aS _ st n td nd nh pl bs kd ag bo pa dm dn hh hn pg sv sd ik ks ktd knd knh kbs kag kbo kpa kdm kdn khh khn hf x (by first | assumption | omega)) gm_497 vf_X3_isHouse ⟨Nat.le_of_ble_eq_true rfl, Nat.le_of_ble_eq_true rfl⟩ ⟨rfl, rfl⟩ ⟨Nat.zero_le _, Nat.zero_le _⟩ (RP.preV hK hP (q0 := 0) (ci := 3) MW_g0 rfl) rfl hl.1 rfl (Nat.le_of_ble_eq_true rfl) dX3_as_2 ?_
  refine bv_if_ne (tgt := 11) hx hb dX3_as_5 (by decide) (fun c_5 => ?_) (fun c_5 => ?_)
  · skip
    obtain ⟨j, qj, ex⟩ := hIn_of c_5 (by omega)
    subst ex
    refine lv_iload_n hx hb dX3_as_11 rfl (lv_at hl 2 rfl) ?_
    refine lv_iconst (v := (nI 0)) hx hb dX3_as_12 (by decide) ?_
    refine lv_iconst (v := (nI 4)) hx hb dX3_as_13 (by decide) ?_
    refine rdS (As := [.int k, .int (nI 0), .int (nI 4)]) (rest := []) hx hb hml hown hg (c_X3_within l D cI cB aS k (nI 0) (nI 4)) gm_469 sf_X3_within ⟨Nat.le_of_ble_eq_true rfl, Nat.le_of_ble_eq_true rfl⟩ ⟨rfl, rfl⟩ ⟨Nat.zero_le _, Nat.zero_le _⟩ (RP.preS hK (fun k q h => by simp at h)) rfl hl.1 rfl (Nat.le_of_ble_eq_true rfl) dX3_as_14 ?_
    refine bv_if_ne (tgt := 23) hx hb dX3_as_17 (by decide) (fun c_17 => ?_) (fun c_17 => ?_)
    · skip
      refine lv_aload_n hx hb dX3_as_23 rfl (lv_at hl 0 rfl) ?_
      refine va_get (D := D) (ci := 3) (v := .ref (b 1)) (C := RX3) (T := TX3) (N := 32) hx hb hg us_X3 hown hK.1 hP 0 MW_g0 rfl 2 (by decide) (hg _ gm_403) (fun _ h9 => h9) rfl dX3_as_24 ?_
      refine lv_iload_n hx hb dX3_as_27 rfl (lv_at hl 1 rfl) ?_
      refine nv_iald hx hb hK.1 hP 1 0 MW_g1 rfl (by omega) (by omega) dX3_as_28 ?_
      refine lv_istore_n (lv' := [(3, .int (kd j)), (0, .ref (b 0)), (1, .int (nI j)), (2, .int k)]) hx hb dX3_as_29 rfl hl (by decide) rfl (fun ls hl => ?_)
      refine lv_iload_n hx hb dX3_as_30 rfl (lv_at hl 3 rfl) ?_
      refine lv_if_eq (tgt := 49) hx hb dX3_as_31 (by decide) (fun (c_31 : k = nI 0) => ?_) (fun (c_31 : ¬ k = nI 0) => ?_)
      · skip
        refine lv_iload_n hx hb dX3_as_49 rfl (lv_at hl 2 rfl) ?_
        refine lv_goto (tgt := 54) hx hb dX3_as_50 (by decide) ?_
        exact rr_i hx hb hr hlocks dX3_as_54 (by rw [as_ok qj hn6 c_17, if_pos (Or.inl c_31)])
      · skip
        refine lv_iload_n hx hb dX3_as_34 rfl (lv_at hl 0 rfl) ?_
        refine lv_iload_n hx hb dX3_as_35 rfl (lv_at hl 3 rfl) ?_
        refine lv_icmp_eq (tgt := 49) hx hb dX3_as_36 (by decide) (fun c_36 => ?_) (fun c_36 => ?_)
        · skip
          refine lv_iload_n hx hb dX3_as_49 rfl (lv_at hl 2 rfl) ?_
          refine lv_goto (tgt := 54) hx hb dX3_as_50 (by decide) ?_
          exact rr_i hx hb hr hlocks dX3_as_54 (by rw [as_ok qj hn6 c_17, if_pos (Or.inr (Or.inl c_36))])
        · skip
          refine lv_iload_n hx hb dX3_as_39 rfl (lv_at hl 3 rfl) ?_
          refine lv_iconst (v := (nI 2)) hx hb dX3_as_40 (by decide) ?_
          refine lv_icmp_ne (tgt := 53) hx hb dX3_as_41 (by decide) (fun c_41 => ?_) (fun c_41 => ?_)
          · skip
            refine lv_iconst (v := (-1)) hx hb dX3_as_53 (by decide) ?_
            exact rr_i hx hb hr hlocks dX3_as_54 (by rw [as_ok qj hn6 c_17, if_neg (fun q => q.elim c_31 (fun q => q.elim c_36 (fun q => c_41 q.1)))])
          · skip
            refine lv_iload_n hx hb dX3_as_44 rfl (lv_at hl 0 rfl) ?_
            refine lv_iconst (v := (nI 4)) hx hb dX3_as_45 (by decide) ?_
            refine lv_icmp_ne (tgt := 53) hx hb dX3_as_46 (by decide) (fun c_46 => ?_) (fun c_46 => ?_)
            · skip
              refine lv_iconst (v := (-1)) hx hb dX3_as_53 (by decide) ?_
              exact rr_i hx hb hr hlocks dX3_as_54 (by rw [as_ok qj hn6 c_17, if_neg (fun q => q.elim c_31 (fun q => q.elim c_36 (fun q => c_46 q.2)))])
            · skip
              refine lv_iload_n hx hb dX3_as_49 rfl (lv_at hl 2 rfl) ?_
              refine lv_goto (tgt := 54) hx hb dX3_as_50 (by decide) ?_
              exact rr_i hx hb hr hlocks dX3_as_54 (by rw [as_ok qj hn6 c_17, if_pos (Or.inr (Or.inr ⟨c_41, c_46⟩))])
    · skip
      refine lv_bipush (v := (-102)) hx hb dX3_as_20 (by decide) ?_
      exact rr_i hx hb hr hlocks dX3_as_22 ((as_2 qj hn6 c_17).symm)
  · skip
    refine lv_bipush (v := (-101)) hx hb dX3_as_8 (by decide) ?_
    exact rr_i hx hb hr hlocks dX3_as_10 ((as_1 c_5).symm)
abbrev rm_X3_then : Room := { frames := 2, cells := 0, slots := 0, locals := 44 }
theorem vf_X3_isDay : vfacts RX3 yX3_isDay cX3_isDay 2 (some .boolean) 1 := ⟨⟨rfl, by decide +kernel, by decide +kernel, by decide +kernel⟩, gm_550, gm_721, gm_5, gm_551⟩
set_option maxRecDepth 100000 in
set_option maxHeartbeats 4000000 in
theorem c_X3_then (l : Launch) (D : va_G) (cI cB : ClassId) (aS : Nat) (b : Nat → Nat) (st n td nd nh pl : Nat) (bs : Int32) (kd ag bo pa dm dn hh hn pg sv : Nat → Int32) (sd : Int64) (ik : Int32) (ks ktd knd knh : Nat) (kbs : Int32) (kag kbo kpa kdm kdn khh khn : Nat → Int32) (hf : Int64) (x d : Int32) (hn6 : n ≤ 6) (qt : td ≤ 30) : Met l yX3_then (mw yX3_then cX3_then 3 (some .int)) rm_X3_then (RP D cI cB aS (MW cI cB b st n td nd nh pl bs kd ag bo pa dm dn hh hn pg sv sd ik ks ktd knd knh kbs kag kbo kpa kdm kdn khh khn hf) [.ref (b 0), .int x, .int d]) (vp_Si (fun r => r = (thF n td kd ag pa x d))) 0 0 (fun _ => False) := by
  refine met_of (by decide) (Nat.le_of_ble_eq_true rfl) ?_
  intro p e s m below meth c ls hx hb hr hml hown hg hlocks hin hK hP hl
  have hown : s.vm.findClass RX3 = some m.cls := hown
  have hl : lv_has ls 3 [(0, .ref (b 0)), (1, .int x), (2, .int d)] := hl
  refine lv_aload_n hx hb dX3_then_0 rfl (lv_at hl 0 rfl) ?_
  refine lv_iload_n hx hb dX3_then_1 rfl (lv_at hl 1 rfl) ?_
  refine rdV (As := [.int x]) (rest := []) hx hb hml hown hg (c_X3_isHouse l D cI cB aS _ st n td nd nh pl bs kd ag bo pa dm dn hh hn pg sv sd ik ks ktd knd knh kbs kag kbo kpa kdm kdn khh khn hf x (by first | assumption | omega)) gm_497 vf_X3_isHouse ⟨Nat.le_of_ble_eq_true rfl, Nat.le_of_ble_eq_true rfl⟩ ⟨rfl, rfl⟩ ⟨Nat.zero_le _, Nat.zero_le _⟩ (RP.preV hK hP (q0 := 0) (ci := 3) MW_g0 rfl) rfl hl.1 rfl (Nat.le_of_ble_eq_true rfl) dX3_then_2 ?_
  refine bv_if_eq (tgt := 25) hx hb dX3_then_5 (by decide) (fun c_5 => ?_) (fun c_5 => ?_)
  · skip
    refine lv_bipush (v := (-101)) hx hb dX3_then_25 (by decide) ?_
    exact rr_i hx hb hr hlocks dX3_then_27 ((if_neg (fun q => c_5 q.1)).symm)
  · skip
    obtain ⟨j, qj, ex⟩ := hIn_of c_5 (by omega)
    subst ex
    refine lv_aload_n hx hb dX3_then_8 rfl (lv_at hl 0 rfl) ?_
    refine lv_iload_n hx hb dX3_then_9 rfl (lv_at hl 2 rfl) ?_
    refine rdV (As := [.int d]) (rest := []) hx hb hml hown hg (c_X3_isDay l D cI cB aS _ st n td nd nh pl bs kd ag bo pa dm dn hh hn pg sv sd ik ks ktd knd knh kbs kag kbo kpa kdm kdn khh khn hf d (by first | assumption | omega)) gm_549 vf_X3_isDay ⟨Nat.le_of_ble_eq_true rfl, Nat.le_of_ble_eq_true rfl⟩ ⟨rfl, rfl⟩ ⟨Nat.zero_le _, Nat.zero_le _⟩ (RP.preV hK hP (q0 := 0) (ci := 3) MW_g0 rfl) rfl hl.1 rfl (Nat.le_of_ble_eq_true rfl) dX3_then_10 ?_
    refine bv_if_eq (tgt := 25) hx hb dX3_then_13 (by decide) (fun c_13 => ?_) (fun c_13 => ?_)
    · skip
      refine lv_bipush (v := (-101)) hx hb dX3_then_25 (by decide) ?_
      exact rr_i hx hb hr hlocks dX3_then_27 ((if_neg (fun q => c_13 q.2)).symm)
    · skip
      obtain ⟨k, qk, ek⟩ := x_in_of ⟨(c_13).2.1, (c_13).2.2⟩ (by omega)
      subst ek
      refine lv_aload_n hx hb dX3_then_16 rfl (lv_at hl 0 rfl) ?_
      refine lv_iload_n hx hb dX3_then_17 rfl (lv_at hl 1 rfl) ?_
      refine lv_iload_n hx hb dX3_then_18 rfl (lv_at hl 2 rfl) ?_
      refine rdV (As := [.int (nI j), .int (nI k)]) (rest := []) hx hb hml hown hg (c_X3_numberOn l D cI cB aS _ st n td nd nh pl bs kd ag bo pa dm dn hh hn pg sv sd ik ks ktd knd knh kbs kag kbo kpa kdm kdn khh khn hf j k (by first | assumption | omega) (by first | assumption | omega) (by first | assumption | omega)) gm_515 vf_X3_numberOn ⟨Nat.le_of_ble_eq_true rfl, Nat.le_of_ble_eq_true rfl⟩ ⟨rfl, rfl⟩ ⟨Nat.zero_le _, Nat.zero_le _⟩ (RP.preV hK hP (q0 := 0) (ci := 3) MW_g0 rfl) rfl hl.1 rfl (Nat.le_of_ble_eq_true rfl) dX3_then_19 ?_
      refine lv_goto (tgt := 27) hx hb dX3_then_22 (by decide) ?_
      exact rr_i hx hb hr hlocks dX3_then_27 ((th_ok qj hn6 qk qt).symm)
abbrev rm_X3_goesTo : Room := { frames := 3, cells := 0, slots := 0, locals := 68 }
set_option maxRecDepth 100000 in
set_option maxHeartbeats 4000000 in
theorem c_X3_goesTo (l : Launch) (D : va_G) (cI cB : ClassId) (aS : Nat) (b : Nat → Nat) (st n td nd nh pl : Nat) (bs : Int32) (kd ag bo pa dm dn hh hn pg sv : Nat → Int32) (sd : Int64) (ik : Int32) (ks ktd knd knh : Nat) (kbs : Int32) (kag kbo kpa kdm kdn khh khn : Nat → Int32) (hf : Int64) (x d : Int32) (hn6 : n ≤ 6) (qt : td ≤ 30) : Met l yX3_goesTo (mw yX3_goesTo cX3_goesTo 3 (some .int)) rm_X3_goesTo (RP D cI cB aS (MW cI cB b st n td nd nh pl bs kd ag bo pa dm dn hh hn pg sv sd ik ks ktd knd knh kbs kag kbo kpa kdm kdn khh khn hf) [.ref (b 0), .int x, .int d]) (vp_Si (fun r => r = (goF n td kd ag pa x d))) 0 0 (fun _ => False) := by
  refine met_of (by decide) (Nat.le_of_ble_eq_true rfl) ?_
  intro p e s m below meth c ls hx hb hr hml hown hg hlocks hin hK hP hl
  have hown : s.vm.findClass RX3 = some m.cls := hown
  have hl : lv_has ls 3 [(0, .ref (b 0)), (1, .int x), (2, .int d)] := hl
  refine lv_aload_n hx hb dX3_goesTo_0 rfl (lv_at hl 0 rfl) ?_
  refine lv_iload_n hx hb dX3_goesTo_1 rfl (lv_at hl 2 rfl) ?_
  refine rdV (As := [.int d]) (rest := []) hx hb hml hown hg (c_X3_isDay l D cI cB aS _ st n td nd nh pl bs kd ag bo pa dm dn hh hn pg sv sd ik ks ktd knd knh kbs kag kbo kpa kdm kdn khh khn hf d (by first | assumption | omega)) gm_549 vf_X3_isDay ⟨Nat.le_of_ble_eq_true rfl, Nat.le_of_ble_eq_true rfl⟩ ⟨rfl, rfl⟩ ⟨Nat.zero_le _, Nat.zero_le _⟩ (RP.preV hK hP (q0 := 0) (ci := 3) MW_g0 rfl) rfl hl.1 rfl (Nat.le_of_ble_eq_true rfl) dX3_goesTo_2 ?_
  refine bv_if_eq (tgt := 17) hx hb dX3_goesTo_5 (by decide) (fun c_5 => ?_) (fun c_5 => ?_)
  · skip
    refine lv_bipush (v := (-101)) hx hb dX3_goesTo_17 (by decide) ?_
    exact rr_i hx hb hr hlocks dX3_goesTo_19 ((if_neg c_5).symm)
  · skip
    obtain ⟨k, qk, ek⟩ := x_in_of ⟨(c_5).2.1, (c_5).2.2⟩ (by omega)
    subst ek
    refine lv_aload_n hx hb dX3_goesTo_8 rfl (lv_at hl 0 rfl) ?_
    refine lv_iload_n hx hb dX3_goesTo_9 rfl (lv_at hl 1 rfl) ?_
    refine lv_iload_n hx hb dX3_goesTo_10 rfl (lv_at hl 2 rfl) ?_
    refine rdV (As := [.int x, .int (nI k)]) (rest := []) hx hb hml hown hg (c_X3_houseOf l D cI cB aS _ st n td nd nh pl bs kd ag bo pa dm dn hh hn pg sv sd ik ks ktd knd knh kbs kag kbo kpa kdm kdn khh khn hf x k (by first | assumption | omega) (by first | assumption | omega) (by first | assumption | omega)) gm_512 vf_X3_houseOf ⟨Nat.le_of_ble_eq_true rfl, Nat.le_of_ble_eq_true rfl⟩ ⟨rfl, rfl⟩ ⟨Nat.zero_le _, Nat.zero_le _⟩ (RP.preV hK hP (q0 := 0) (ci := 3) MW_g0 rfl) rfl hl.1 rfl (Nat.le_of_ble_eq_true rfl) dX3_goesTo_11 ?_
    refine lv_goto (tgt := 19) hx hb dX3_goesTo_14 (by decide) ?_
    exact rr_i hx hb hr hlocks dX3_goesTo_19 ((go_ok c_5.1 qk qt).symm)
abbrev rm_X3_walk : Room := { frames := 4, cells := 0, slots := 0, locals := 90 }
theorem vf_X3_walkNow : vfacts RX3 yX3_walkNow cX3_walkNow 5 (some .int) 0 := ⟨⟨rfl, by decide +kernel, by decide +kernel, by decide +kernel⟩, gm_561, gm_722, gm_5, gm_562⟩
set_option maxRecDepth 100000 in
set_option maxHeartbeats 4000000 in
theorem c_X3_walk (l : Launch) (D : va_G) (cI cB : ClassId) (aS : Nat) (b : Nat → Nat) (st n td nd nh pl : Nat) (bs : Int32) (kd ag bo pa dm dn hh hn pg sv : Nat → Int32) (sd : Int64) (ik : Int32) (ks ktd knd knh : Nat) (kbs : Int32) (kag kbo kpa kdm kdn khh khn : Nat → Int32) (hf : Int64)  (hn6 : n ≤ 6) : Met l yX3_walk (mw yX3_walk cX3_walk 1 (some .int)) rm_X3_walk (RP D cI cB aS (MW cI cB b st n td nd nh pl bs kd ag bo pa dm dn hh hn pg sv sd ik ks ktd knd knh kbs kag kbo kpa kdm kdn khh khn hf) [.ref (b 0)]) (vp_Si (fun r => r = (if n = 0 then -103 else nI (wkF n (nmF kd ag) n)))) 0 0 (fun _ => False) := by
  refine met_of (by decide) (Nat.le_of_ble_eq_true rfl) ?_
  intro p e s m below meth c ls hx hb hr hml hown hg hlocks hin hK hP hl
  have hown : s.vm.findClass RX3 = some m.cls := hown
  have hl : lv_has ls 1 [(0, .ref (b 0))] := hl
  refine lv_aload_n hx hb dX3_walk_0 rfl (lv_at hl 0 rfl) ?_
  refine va_get (D := D) (ci := 3) (v := .int (nI n)) (C := RX3) (T := TX3) (N := 32) hx hb hg us_X3 hown hK.1 hP 0 MW_g0 rfl 1 (by decide) (hg _ gm_402) (fun _ h9 => h9) rfl dX3_walk_1 ?_
  refine nv_if_ne (tgt := 12) hx hb dX3_walk_4 (by omega) (by decide) (fun c_4 => ?_) (fun c_4 => ?_)
  · skip
    refine lv_aload_n hx hb dX3_walk_12 rfl (lv_at hl 0 rfl) ?_
    refine rdV (As := []) (rest := []) hx hb hml hown hg (c_X3_walkNow l D cI cB aS _ st n td nd nh pl bs kd ag bo pa dm dn hh hn pg sv sd ik ks ktd knd knh kbs kag kbo kpa kdm kdn khh khn hf (by first | assumption | omega)) gm_560 vf_X3_walkNow ⟨Nat.le_of_ble_eq_true rfl, Nat.le_of_ble_eq_true rfl⟩ ⟨rfl, rfl⟩ ⟨Nat.zero_le _, Nat.zero_le _⟩ (RP.preV hK hP (q0 := 0) (ci := 3) MW_g0 rfl) rfl hl.1 rfl (Nat.le_of_ble_eq_true rfl) dX3_walk_13 ?_
    exact rr_i hx hb hr hlocks dX3_walk_16 ((if_neg c_4).symm)
  · skip
    refine lv_bipush (v := (-103)) hx hb dX3_walk_7 (by decide) ?_
    refine lv_goto (tgt := 16) hx hb dX3_walk_9 (by decide) ?_
    exact rr_i hx hb hr hlocks dX3_walk_16 ((if_pos c_4).symm)
abbrev rm_X3_numbersAll : Room := { frames := 2, cells := 0, slots := 0, locals := 43 }
set_option maxRecDepth 100000 in
set_option maxHeartbeats 4000000 in
theorem c_X3_numbersAll (l : Launch) (D : va_G) (cI cB : ClassId) (aS : Nat) (b : Nat → Nat) (st n td nd nh pl : Nat) (bs : Int32) (kd ag bo pa dm dn hh hn pg sv : Nat → Int32) (sd : Int64) (ik : Int32) (ks ktd knd knh : Nat) (kbs : Int32) (kag kbo kpa kdm kdn khh khn : Nat → Int32) (hf : Int64)  (hn6 : n ≤ 6) : Met l yX3_numbersAll (mw yX3_numbersAll cX3_numbersAll 3 (some .int)) rm_X3_numbersAll (RP D cI cB aS (MW cI cB b st n td nd nh pl bs kd ag bo pa dm dn hh hn pg sv sd ik ks ktd knd knh kbs kag kbo kpa kdm kdn khh khn hf) [.ref (b 0)]) (vp_Si (fun r => r = (sm (nmF kd ag) n))) 0 0 (fun _ => False) := by
  refine met_of (by decide) (Nat.le_of_ble_eq_true rfl) ?_
  intro p e s m below meth c ls hx hb hr hml hown hg hlocks hin hK hP hl
  have hown : s.vm.findClass RX3 = some m.cls := hown
  have hl : lv_has ls 3 [(0, .ref (b 0))] := hl
  refine lv_iconst (v := (nI 0)) hx hb dX3_numbersAll_0 (by decide) ?_
  refine lv_istore_n (lv' := [(1, .int (nI 0)), (0, .ref (b 0))]) hx hb dX3_numbersAll_1 rfl hl (by decide) rfl (fun ls hl => ?_)
  refine lv_iconst (v := (nI 0)) hx hb dX3_numbersAll_2 (by decide) ?_
  refine lv_istore_n (lv' := [(2, .int (nI 0)), (1, .int (nI 0)), (0, .ref (b 0))]) hx hb dX3_numbersAll_3 rfl hl (by decide) rfl (fun ls hl => ?_)
  -- loop at 4
  refine loopR (nL := 3) (B := n) (I := fun i => True) (lv := fun i => [(0, .ref (b 0)), (1, .int (sm (nmF kd ag) i)), (2, .int (nI i))]) 0 (Nat.zero_le _) (trivial) (by show lv_has ls 3 [(0, .ref (b 0)), (1, .int (sm (nmF kd ag) 0)), (2, .int (nI 0))]; exact lv_sub hl [2, 1, 0] rfl) (fun i ls hj hI hl ih => ?_)
  have hl : lv_has ls 3 [(0, .ref (b 0)), (1, .int (sm (nmF kd ag) i)), (2, .int (nI i))] := hl
  have ih_4 := ih
  refine lv_iload_n hx hb dX3_numbersAll_4 rfl (lv_at hl 2 rfl) ?_
  refine lv_aload_n hx hb dX3_numbersAll_5 rfl (lv_at hl 0 rfl) ?_
  refine va_get (D := D) (ci := 3) (v := .int (nI n)) (C := RX3) (T := TX3) (N := 32) hx hb hg us_X3 hown hK.1 hP 0 MW_g0 rfl 1 (by decide) (hg _ gm_402) (fun _ h9 => h9) rfl dX3_numbersAll_6 ?_
  refine nv_icmp_ge (tgt := 26) hx hb dX3_numbersAll_9 (by omega) (by omega) (by decide) (fun c_9 => ?_) (fun c_9 => ?_)
  · skip
    refine lv_iload_n hx hb dX3_numbersAll_26 rfl (lv_at hl 1 rfl) ?_
    exact rr_i hx hb hr hlocks dX3_numbersAll_27 (by rw [show i = n by omega])
  · skip
    refine lv_iload_n hx hb dX3_numbersAll_12 rfl (lv_at hl 1 rfl) ?_
    refine lv_aload_n hx hb dX3_numbersAll_13 rfl (lv_at hl 0 rfl) ?_
    refine lv_iload_n hx hb dX3_numbersAll_14 rfl (lv_at hl 2 rfl) ?_
    refine rdV (As := [.int (nI i)]) (rest := [.int (sm (nmF kd ag) i)]) hx hb hml hown hg (c_X3_number l D cI cB aS _ st n td nd nh pl bs kd ag bo pa dm dn hh hn pg sv sd ik ks ktd knd knh kbs kag kbo kpa kdm kdn khh khn hf i (by first | assumption | omega)) gm_503 vf_X3_number ⟨Nat.le_of_ble_eq_true rfl, Nat.le_of_ble_eq_true rfl⟩ ⟨rfl, rfl⟩ ⟨Nat.zero_le _, Nat.zero_le _⟩ (RP.preV hK hP (q0 := 0) (ci := 3) MW_g0 rfl) rfl hl.1 rfl (Nat.le_of_ble_eq_true rfl) dX3_numbersAll_15 ?_
    refine lv_iadd hx hb dX3_numbersAll_18 ?_
    refine lv_istore_n (lv' := [(1, .int ((sm (nmF kd ag) i) + (nmF kd ag i))), (0, .ref (b 0)), (2, .int (nI i))]) hx hb dX3_numbersAll_19 rfl hl (by decide) rfl (fun ls hl => ?_)
    refine lv_iinc (v := (nI (i + 1))) (lv' := [(2, .int (nI (i + 1))), (1, .int ((sm (nmF kd ag) i) + (nmF kd ag i))), (0, .ref (b 0))]) hx hb dX3_numbersAll_20 hl (k := 2) rfl (nI_i1 _) (by decide) rfl (fun ls hl => ?_)
    refine lv_goto (tgt := 4) hx hb dX3_numbersAll_23 (by decide) ?_
    exact ih_4 _ (by omega) (trivial) (by show lv_has ls 3 [(0, .ref (b 0)), (1, .int (sm (nmF kd ag) (i + 1))), (2, .int (nI (i + 1)))]; rw [show (sm (nmF kd ag) (i + 1)) = (sm (nmF kd ag) i) + (nmF kd ag i) from rfl]; exact lv_sub hl [2, 1, 0] rfl)
abbrev rm_X3_whenNow : Room := { frames := 1, cells := 0, slots := 0, locals := 22 }
set_option maxRecDepth 100000 in
set_option maxHeartbeats 4000000 in
theorem c_X3_whenNow (l : Launch) (D : va_G) (cI cB : ClassId) (aS : Nat) (b : Nat → Nat) (st n td nd nh pl : Nat) (bs : Int32) (kd ag bo pa dm dn hh hn pg sv : Nat → Int32) (sd : Int64) (ik : Int32) (ks ktd knd knh : Nat) (kbs : Int32) (kag kbo kpa kdm kdn khh khn : Nat → Int32) (hf : Int64) (j : Nat) (x : Int32) (qj : j < 6) : Met l yX3_whenNow (mw yX3_whenNow cX3_whenNow 4 (some .int)) rm_X3_whenNow (RP D cI cB aS (MW cI cB b st n td nd nh pl bs kd ag bo pa dm dn hh hn pg sv sd ik ks ktd knd knh kbs kag kbo kpa kdm kdn khh khn hf) [.ref (b 0), .int (nI j), .int x]) (vp_Si (fun r => r = (whF (kd j) (ag j) x))) 0 0 (fun _ => False) := by
  refine met_of (by decide) (Nat.le_of_ble_eq_true rfl) ?_
  intro p e s m below meth c ls hx hb hr hml hown hg hlocks hin hK hP hl
  have hown : s.vm.findClass RX3 = some m.cls := hown
  have hl : lv_has ls 4 [(0, .ref (b 0)), (1, .int (nI j)), (2, .int x)] := hl
  refine lv_iconst (v := (nI 0)) hx hb dX3_whenNow_0 (by decide) ?_
  refine lv_istore_n (lv' := [(3, .int (nI 0)), (0, .ref (b 0)), (1, .int (nI j)), (2, .int x)]) hx hb dX3_whenNow_1 rfl hl (by decide) rfl (fun ls hl => ?_)
  -- loop at 2
  refine loopR (nL := 4) (B := 100) (I := fun i => ∀ k, k < i → decide (numF (kd j) (agF (kd j) (ag j) k) = x) = false) (lv := fun i => [(0, .ref (b 0)), (1, .int (nI j)), (2, .int x), (3, .int (nI i))]) 0 (Nat.zero_le _) (fun k h => by omega) (lv_sub hl [1, 2, 3, 0] rfl) (fun i ls hj hI hl ih => ?_)
  have hl : lv_has ls 4 [(0, .ref (b 0)), (1, .int (nI j)), (2, .int x), (3, .int (nI i))] := hl
  have hI : ∀ k, k < i → decide (numF (kd j) (agF (kd j) (ag j) k) = x) = false := hI
  have ih_2 := ih
  refine lv_iload_n hx hb dX3_whenNow_2 rfl (lv_at hl 3 rfl) ?_
  refine lv_bipush (v := (nI 99)) hx hb dX3_whenNow_3 (by decide) ?_
  refine nv_icmp_gt (tgt := 52) hx hb dX3_whenNow_5 (by omega) (by omega) (by decide) (fun c_5 => ?_) (fun c_5 => ?_)
  · skip
    refine lv_iconst (v := (-1)) hx hb dX3_whenNow_52 (by decide) ?_
    exact rr_i hx hb hr hlocks dX3_whenNow_53 ((ff_no (fun k h => hI k (by omega))).symm)
  · skip
    refine lv_aload_n hx hb dX3_whenNow_8 rfl (lv_at hl 0 rfl) ?_
    refine lv_iload_n hx hb dX3_whenNow_9 rfl (lv_at hl 1 rfl) ?_
    refine lv_aload_n hx hb dX3_whenNow_10 rfl (lv_at hl 0 rfl) ?_
    refine va_get (D := D) (ci := 3) (v := .ref (b 1)) (C := RX3) (T := TX3) (N := 32) hx hb hg us_X3 hown hK.1 hP 0 MW_g0 rfl 2 (by decide) (hg _ gm_403) (fun _ h9 => h9) rfl dX3_whenNow_11 ?_
    refine lv_iload_n hx hb dX3_whenNow_14 rfl (lv_at hl 1 rfl) ?_
    refine nv_iald hx hb hK.1 hP 1 0 MW_g1 rfl (by omega) (by omega) dX3_whenNow_15 ?_
    refine lv_iconst (v := (nI 4)) hx hb dX3_whenNow_16 (by decide) ?_
    refine lv_icmp_ne (tgt := 29) hx hb dX3_whenNow_17 (by decide) (fun c_17 => ?_) (fun c_17 => ?_)
    · skip
      refine lv_aload_n hx hb dX3_whenNow_29 rfl (lv_at hl 0 rfl) ?_
      refine va_get (D := D) (ci := 3) (v := .ref (b 2)) (C := RX3) (T := TX3) (N := 32) hx hb hg us_X3 hown hK.1 hP 0 MW_g0 rfl 3 (by decide) (hg _ gm_404) (fun _ h9 => h9) rfl dX3_whenNow_30 ?_
      refine lv_iload_n hx hb dX3_whenNow_33 rfl (lv_at hl 1 rfl) ?_
      refine nv_iald hx hb hK.1 hP 2 0 MW_g2 rfl (by omega) (by omega) dX3_whenNow_34 ?_
      refine lv_iload_n hx hb dX3_whenNow_35 rfl (lv_at hl 3 rfl) ?_
      refine lv_iadd hx hb dX3_whenNow_36 ?_
      refine rdV (As := [.int (nI j), .int ((ag j) + (nI i))]) (rest := []) hx hb hml hown hg (c_X3_numberBy l D cI cB aS _ st n td nd nh pl bs kd ag bo pa dm dn hh hn pg sv sd ik ks ktd knd knh kbs kag kbo kpa kdm kdn khh khn hf j ((ag j) + (nI i)) (by first | assumption | omega)) gm_506 vf_X3_numberBy ⟨Nat.le_of_ble_eq_true rfl, Nat.le_of_ble_eq_true rfl⟩ ⟨rfl, rfl⟩ ⟨Nat.zero_le _, Nat.zero_le _⟩ (RP.preV hK hP (q0 := 0) (ci := 3) MW_g0 rfl) rfl hl.1 rfl (Nat.le_of_ble_eq_true rfl) dX3_whenNow_37 ?_
      refine lv_iload_n hx hb dX3_whenNow_40 rfl (lv_at hl 2 rfl) ?_
      refine lv_icmp_ne (tgt := 46) hx hb dX3_whenNow_41 (by decide) (fun c_41 => ?_) (fun c_41 => ?_)
      · skip
        refine lv_iinc (v := (nI (i + 1))) (lv' := [(3, .int (nI (i + 1))), (0, .ref (b 0)), (1, .int (nI j)), (2, .int x)]) hx hb dX3_whenNow_46 hl (k := 3) rfl (nI_i1 _) (by decide) rfl (fun ls hl => ?_)
        refine lv_goto (tgt := 2) hx hb dX3_whenNow_49 (by decide) ?_
        exact ih_2 _ (by omega) (fun k h => by rcases Nat.lt_succ_iff_lt_or_eq.mp h with h | h; exact hI k h; rw [h]; exact decide_eq_false (by unfold agF; rw [if_neg c_17]; exact c_41)) (lv_sub hl [1, 2, 3, 0] rfl)
      · skip
        refine lv_iload_n hx hb dX3_whenNow_44 rfl (lv_at hl 3 rfl) ?_
        exact rr_i hx hb hr hlocks dX3_whenNow_45 ((ff_at (by omega) hI (decide_eq_true (by unfold agF; rw [if_neg c_17]; exact c_41))).symm)
    · skip
      refine lv_aload_n hx hb dX3_whenNow_20 rfl (lv_at hl 0 rfl) ?_
      refine va_get (D := D) (ci := 3) (v := .ref (b 2)) (C := RX3) (T := TX3) (N := 32) hx hb hg us_X3 hown hK.1 hP 0 MW_g0 rfl 3 (by decide) (hg _ gm_404) (fun _ h9 => h9) rfl dX3_whenNow_21 ?_
      refine lv_iload_n hx hb dX3_whenNow_24 rfl (lv_at hl 1 rfl) ?_
      refine nv_iald hx hb hK.1 hP 2 0 MW_g2 rfl (by omega) (by omega) dX3_whenNow_25 ?_
      refine lv_goto (tgt := 37) hx hb dX3_whenNow_26 (by decide) ?_
      refine rdV (As := [.int (nI j), .int (ag j)]) (rest := []) hx hb hml hown hg (c_X3_numberBy l D cI cB aS _ st n td nd nh pl bs kd ag bo pa dm dn hh hn pg sv sd ik ks ktd knd knh kbs kag kbo kpa kdm kdn khh khn hf j (ag j) (by first | assumption | omega)) gm_506 vf_X3_numberBy ⟨Nat.le_of_ble_eq_true rfl, Nat.le_of_ble_eq_true rfl⟩ ⟨rfl, rfl⟩ ⟨Nat.zero_le _, Nat.zero_le _⟩ (RP.preV hK hP (q0 := 0) (ci := 3) MW_g0 rfl) rfl hl.1 rfl (Nat.le_of_ble_eq_true rfl) dX3_whenNow_37 ?_
      refine lv_iload_n hx hb dX3_whenNow_40 rfl (lv_at hl 2 rfl) ?_
      refine lv_icmp_ne (tgt := 46) hx hb dX3_whenNow_41 (by decide) (fun c_41 => ?_) (fun c_41 => ?_)
      · skip
        refine lv_iinc (v := (nI (i + 1))) (lv' := [(3, .int (nI (i + 1))), (0, .ref (b 0)), (1, .int (nI j)), (2, .int x)]) hx hb dX3_whenNow_46 hl (k := 3) rfl (nI_i1 _) (by decide) rfl (fun ls hl => ?_)
        refine lv_goto (tgt := 2) hx hb dX3_whenNow_49 (by decide) ?_
        exact ih_2 _ (by omega) (fun k h => by rcases Nat.lt_succ_iff_lt_or_eq.mp h with h | h; exact hI k h; rw [h]; exact decide_eq_false (by unfold agF; rw [if_pos c_17]; exact c_41)) (lv_sub hl [1, 2, 3, 0] rfl)
      · skip
        refine lv_iload_n hx hb dX3_whenNow_44 rfl (lv_at hl 3 rfl) ?_
        exact rr_i hx hb hr hlocks dX3_whenNow_45 ((ff_at (by omega) hI (decide_eq_true (by unfold agF; rw [if_pos c_17]; exact c_41))).symm)
abbrev rm_X3_when : Room := { frames := 2, cells := 0, slots := 0, locals := 45 }
theorem vf_X3_whenNow : vfacts RX3 yX3_whenNow cX3_whenNow 4 (some .int) 2 := ⟨⟨rfl, by decide +kernel, by decide +kernel, by decide +kernel⟩, gm_602, gm_728, gm_5, gm_603⟩
set_option maxRecDepth 100000 in
set_option maxHeartbeats 4000000 in
theorem c_X3_when (l : Launch) (D : va_G) (cI cB : ClassId) (aS : Nat) (b : Nat → Nat) (st n td nd nh pl : Nat) (bs : Int32) (kd ag bo pa dm dn hh hn pg sv : Nat → Int32) (sd : Int64) (ik : Int32) (ks ktd knd knh : Nat) (kbs : Int32) (kag kbo kpa kdm kdn khh khn : Nat → Int32) (hf : Int64) (x y : Int32) (hn6 : n ≤ 6) : Met l yX3_when (mw yX3_when cX3_when 3 (some .int)) rm_X3_when (RP D cI cB aS (MW cI cB b st n td nd nh pl bs kd ag bo pa dm dn hh hn pg sv sd ik ks ktd knd knh kbs kag kbo kpa kdm kdn khh khn hf) [.ref (b 0), .int x, .int y]) (vp_Si (fun r => r = (whnF n kd ag x y))) 0 0 (fun _ => False) := by
  refine met_of (by decide) (Nat.le_of_ble_eq_true rfl) ?_
  intro p e s m below meth c ls hx hb hr hml hown hg hlocks hin hK hP hl
  have hown : s.vm.findClass RX3 = some m.cls := hown
  have hl : lv_has ls 3 [(0, .ref (b 0)), (1, .int x), (2, .int y)] := hl
  refine lv_aload_n hx hb dX3_when_0 rfl (lv_at hl 0 rfl) ?_
  refine lv_iload_n hx hb dX3_when_1 rfl (lv_at hl 1 rfl) ?_
  refine rdV (As := [.int x]) (rest := []) hx hb hml hown hg (c_X3_isHouse l D cI cB aS _ st n td nd nh pl bs kd ag bo pa dm dn hh hn pg sv sd ik ks ktd knd knh kbs kag kbo kpa kdm kdn khh khn hf x (by first | assumption | omega)) gm_497 vf_X3_isHouse ⟨Nat.le_of_ble_eq_true rfl, Nat.le_of_ble_eq_true rfl⟩ ⟨rfl, rfl⟩ ⟨Nat.zero_le _, Nat.zero_le _⟩ (RP.preV hK hP (q0 := 0) (ci := 3) MW_g0 rfl) rfl hl.1 rfl (Nat.le_of_ble_eq_true rfl) dX3_when_2 ?_
  refine bv_if_eq (tgt := 17) hx hb dX3_when_5 (by decide) (fun c_5 => ?_) (fun c_5 => ?_)
  · skip
    refine lv_bipush (v := (-101)) hx hb dX3_when_17 (by decide) ?_
    exact rr_i hx hb hr hlocks dX3_when_19 ((if_neg c_5).symm)
  · skip
    obtain ⟨j, qj, ex⟩ := hIn_of c_5 (by omega)
    subst ex
    refine lv_aload_n hx hb dX3_when_8 rfl (lv_at hl 0 rfl) ?_
    refine lv_iload_n hx hb dX3_when_9 rfl (lv_at hl 1 rfl) ?_
    refine lv_iload_n hx hb dX3_when_10 rfl (lv_at hl 2 rfl) ?_
    refine rdV (As := [.int (nI j), .int y]) (rest := []) hx hb hml hown hg (c_X3_whenNow l D cI cB aS _ st n td nd nh pl bs kd ag bo pa dm dn hh hn pg sv sd ik ks ktd knd knh kbs kag kbo kpa kdm kdn khh khn hf j y (by first | assumption | omega)) gm_601 vf_X3_whenNow ⟨Nat.le_of_ble_eq_true rfl, Nat.le_of_ble_eq_true rfl⟩ ⟨rfl, rfl⟩ ⟨Nat.zero_le _, Nat.zero_le _⟩ (RP.preV hK hP (q0 := 0) (ci := 3) MW_g0 rfl) rfl hl.1 rfl (Nat.le_of_ble_eq_true rfl) dX3_when_11 ?_
    refine lv_goto (tgt := 19) hx hb dX3_when_14 (by decide) ?_
    exact rr_i hx hb hr hlocks dX3_when_19 ((whn_ok qj hn6).symm)
abbrev rm_X3_isHeard : Room := { frames := 2, cells := 0, slots := 0, locals := 44 }
set_option maxRecDepth 100000 in
set_option maxHeartbeats 4000000 in
theorem c_X3_isHeard (l : Launch) (D : va_G) (cI cB : ClassId) (aS : Nat) (b : Nat → Nat) (st n td nd nh pl : Nat) (bs : Int32) (kd ag bo pa dm dn hh hn pg sv : Nat → Int32) (sd : Int64) (ik : Int32) (ks ktd knd knh : Nat) (kbs : Int32) (kag kbo kpa kdm kdn khh khn : Nat → Int32) (hf : Int64) (d : Nat) (hn6 : n ≤ 6) (qt : td ≤ 30) (qnh : nh ≤ 6) (qhh : hOK n hh nh) (qd : d ≤ td) : Met l yX3_isHeard (mw yX3_isHeard cX3_isHeard 4 (some .boolean)) rm_X3_isHeard (RP D cI cB aS (MW cI cB b st n td nd nh pl bs kd ag bo pa dm dn hh hn pg sv sd ik ks ktd knd knh kbs kag kbo kpa kdm kdn khh khn hf) [.ref (b 0), .int (nI d)]) (vp_Si (fun r => r = (bi (cbF kd ag pa hh hn td nh d = true)))) 0 0 (fun _ => False) := by
  refine met_of (by decide) (Nat.le_of_ble_eq_true rfl) ?_
  intro p e s m below meth c ls hx hb hr hml hown hg hlocks hin hK hP hl
  have hown : s.vm.findClass RX3 = some m.cls := hown
  have hl : lv_has ls 4 [(0, .ref (b 0)), (1, .int (nI d))] := hl
  refine lv_iconst (v := (nI 1)) hx hb dX3_isHeard_0 (by decide) ?_
  refine lv_istore_n (lv' := [(2, .int (nI 1)), (0, .ref (b 0)), (1, .int (nI d))]) hx hb dX3_isHeard_1 rfl hl (by decide) rfl (fun ls hl => ?_)
  refine lv_iconst (v := (nI 0)) hx hb dX3_isHeard_2 (by decide) ?_
  refine lv_istore_n (lv' := [(3, .int (nI 0)), (2, .int (nI 1)), (0, .ref (b 0)), (1, .int (nI d))]) hx hb dX3_isHeard_3 rfl hl (by decide) rfl (fun ls hl => ?_)
  -- loop at 4
  refine loopR (nL := 4) (B := nh) (I := fun i => True) (lv := fun i => [(0, .ref (b 0)), (1, .int (nI d)), (2, .int (bi (al (cbP kd ag pa hh hn td d) i = true))), (3, .int (nI i))]) 0 (Nat.zero_le _) (trivial) (by show lv_has ls 4 [(0, .ref (b 0)), (1, .int (nI d)), (2, .int (bi (al (cbP kd ag pa hh hn td d) 0 = true))), (3, .int (nI 0))]; exact lv_sub hl [2, 3, 1, 0] rfl) (fun i ls hj hI hl ih => ?_)
  have hl : lv_has ls 4 [(0, .ref (b 0)), (1, .int (nI d)), (2, .int (bi (al (cbP kd ag pa hh hn td d) i = true))), (3, .int (nI i))] := hl
  have ih_4 := ih
  refine lv_iload_n hx hb dX3_isHeard_4 rfl (lv_at hl 3 rfl) ?_
  refine lv_aload_n hx hb dX3_isHeard_5 rfl (lv_at hl 0 rfl) ?_
  refine va_get (D := D) (ci := 3) (v := .int (nI nh)) (C := RX3) (T := TX3) (N := 32) hx hb hg us_X3 hown hK.1 hP 0 MW_g0 rfl 11 (by decide) (hg _ gm_412) (fun _ h9 => h9) rfl dX3_isHeard_6 ?_
  refine nv_icmp_ge (tgt := 48) hx hb dX3_isHeard_9 (by omega) (by omega) (by decide) (fun c_9 => ?_) (fun c_9 => ?_)
  · skip
    refine lv_iload_n hx hb dX3_isHeard_48 rfl (lv_at hl 2 rfl) ?_
    exact rr_z hx hb hr hlocks dX3_isHeard_49 bi_nar (by unfold cbF; rw [show i = nh by omega])
  · skip
    refine lv_iload_n hx hb dX3_isHeard_12 rfl (lv_at hl 2 rfl) ?_
    refine bv_if_eq (tgt := 40) hx hb dX3_isHeard_13 (by decide) (fun c_13 => ?_) (fun c_13 => ?_)
    · skip
      refine lv_iconst (v := (nI 0)) hx hb dX3_isHeard_40 (by decide) ?_
      refine lv_istore_n (lv' := [(2, .int (nI 0)), (0, .ref (b 0)), (1, .int (nI d)), (3, .int (nI i))]) hx hb dX3_isHeard_41 rfl hl (by decide) rfl (fun ls hl => ?_)
      refine lv_iinc (v := (nI (i + 1))) (lv' := [(3, .int (nI (i + 1))), (2, .int (nI 0)), (0, .ref (b 0)), (1, .int (nI d))]) hx hb dX3_isHeard_42 hl (k := 3) rfl (nI_i1 _) (by decide) rfl (fun ls hl => ?_)
      refine lv_goto (tgt := 4) hx hb dX3_isHeard_45 (by decide) ?_
      exact ih_4 _ (by omega) (trivial) (by show lv_has ls 4 [(0, .ref (b 0)), (1, .int (nI d)), (2, .int (bi (al (cbP kd ag pa hh hn td d) (i + 1) = true))), (3, .int (nI (i + 1)))]; rw [show ((bi (al (cbP kd ag pa hh hn td d) (i + 1) = true))) = (nI 0) from bi_f (al_f1 c_13)]; exact lv_sub hl [2, 3, 1, 0] rfl)
    · skip
      refine lv_aload_n hx hb dX3_isHeard_16 rfl (lv_at hl 0 rfl) ?_
      refine lv_aload_n hx hb dX3_isHeard_17 rfl (lv_at hl 0 rfl) ?_
      refine va_get (D := D) (ci := 3) (v := .ref (b 7)) (C := RX3) (T := TX3) (N := 32) hx hb hg us_X3 hown hK.1 hP 0 MW_g0 rfl 12 (by decide) (hg _ gm_413) (fun _ h9 => h9) rfl dX3_isHeard_18 ?_
      refine lv_iload_n hx hb dX3_isHeard_21 rfl (lv_at hl 3 rfl) ?_
      refine nv_iald hx hb hK.1 hP 7 0 MW_g7 rfl (by omega) (by omega) dX3_isHeard_22 ?_
      rw [show ((hh i) : Int32) = (nI ((hh i).toNatClampNeg)) from (qhh i (by omega)).2]
      refine lv_iload_n hx hb dX3_isHeard_23 rfl (lv_at hl 1 rfl) ?_
      refine rdV (As := [.int (nI ((hh i).toNatClampNeg)), .int (nI d)]) (rest := []) hx hb hml hown hg (c_X3_numberOn l D cI cB aS _ st n td nd nh pl bs kd ag bo pa dm dn hh hn pg sv sd ik ks ktd knd knh kbs kag kbo kpa kdm kdn khh khn hf ((hh i).toNatClampNeg) d (by have := (qhh i (by omega)).1; omega) (by first | assumption | omega) (by first | assumption | omega)) gm_515 vf_X3_numberOn ⟨Nat.le_of_ble_eq_true rfl, Nat.le_of_ble_eq_true rfl⟩ ⟨rfl, rfl⟩ ⟨Nat.zero_le _, Nat.zero_le _⟩ (RP.preV hK hP (q0 := 0) (ci := 3) MW_g0 rfl) rfl hl.1 rfl (Nat.le_of_ble_eq_true rfl) dX3_isHeard_24 ?_
      refine lv_aload_n hx hb dX3_isHeard_27 rfl (lv_at hl 0 rfl) ?_
      refine va_get (D := D) (ci := 3) (v := .ref (b 8)) (C := RX3) (T := TX3) (N := 32) hx hb hg us_X3 hown hK.1 hP 0 MW_g0 rfl 13 (by decide) (hg _ gm_414) (fun _ h9 => h9) rfl dX3_isHeard_28 ?_
      refine lv_iload_n hx hb dX3_isHeard_31 rfl (lv_at hl 3 rfl) ?_
      refine nv_iald hx hb hK.1 hP 8 0 MW_g8 rfl (by omega) (by omega) dX3_isHeard_32 ?_
      refine lv_icmp_ne (tgt := 40) hx hb dX3_isHeard_33 (by decide) (fun c_33 => ?_) (fun c_33 => ?_)
      · skip
        refine lv_iconst (v := (nI 0)) hx hb dX3_isHeard_40 (by decide) ?_
        refine lv_istore_n (lv' := [(2, .int (nI 0)), (0, .ref (b 0)), (1, .int (nI d)), (3, .int (nI i))]) hx hb dX3_isHeard_41 rfl hl (by decide) rfl (fun ls hl => ?_)
        refine lv_iinc (v := (nI (i + 1))) (lv' := [(3, .int (nI (i + 1))), (2, .int (nI 0)), (0, .ref (b 0)), (1, .int (nI d))]) hx hb dX3_isHeard_42 hl (k := 3) rfl (nI_i1 _) (by decide) rfl (fun ls hl => ?_)
        refine lv_goto (tgt := 4) hx hb dX3_isHeard_45 (by decide) ?_
        exact ih_4 _ (by omega) (trivial) (by show lv_has ls 4 [(0, .ref (b 0)), (1, .int (nI d)), (2, .int (bi (al (cbP kd ag pa hh hn td d) (i + 1) = true))), (3, .int (nI (i + 1)))]; rw [show ((bi (al (cbP kd ag pa hh hn td d) (i + 1) = true))) = (nI 0) from bi_f (al_f2 (fun q => c_33 (of_decide_eq_true q)))]; exact lv_sub hl [2, 3, 1, 0] rfl)
      · skip
        refine lv_iconst (v := (nI 1)) hx hb dX3_isHeard_36 (by decide) ?_
        refine lv_goto (tgt := 41) hx hb dX3_isHeard_37 (by decide) ?_
        refine lv_istore_n (lv' := [(2, .int (nI 1)), (0, .ref (b 0)), (1, .int (nI d)), (3, .int (nI i))]) hx hb dX3_isHeard_41 rfl hl (by decide) rfl (fun ls hl => ?_)
        refine lv_iinc (v := (nI (i + 1))) (lv' := [(3, .int (nI (i + 1))), (2, .int (nI 1)), (0, .ref (b 0)), (1, .int (nI d))]) hx hb dX3_isHeard_42 hl (k := 3) rfl (nI_i1 _) (by decide) rfl (fun ls hl => ?_)
        refine lv_goto (tgt := 4) hx hb dX3_isHeard_45 (by decide) ?_
        exact ih_4 _ (by omega) (trivial) (by show lv_has ls 4 [(0, .ref (b 0)), (1, .int (nI d)), (2, .int (bi (al (cbP kd ag pa hh hn td d) (i + 1) = true))), (3, .int (nI (i + 1)))]; rw [show ((bi (al (cbP kd ag pa hh hn td d) (i + 1) = true))) = (nI 1) from bi_t (al_t c_13 (decide_eq_true c_33))]; exact lv_sub hl [2, 3, 1, 0] rfl)
abbrev rm_X3_daysNow : Room := { frames := 3, cells := 0, slots := 0, locals := 67 }
theorem vf_X3_isHeard : vfacts RX3 yX3_isHeard cX3_isHeard 4 (some .boolean) 1 := ⟨⟨rfl, by decide +kernel, by decide +kernel, by decide +kernel⟩, gm_620, gm_730, gm_5, gm_621⟩
set_option maxRecDepth 100000 in
set_option maxHeartbeats 4000000 in
theorem c_X3_daysNow (l : Launch) (D : va_G) (cI cB : ClassId) (aS : Nat) (b : Nat → Nat) (st n td nd nh pl : Nat) (bs : Int32) (kd ag bo pa dm dn hh hn pg sv : Nat → Int32) (sd : Int64) (ik : Int32) (ks ktd knd knh : Nat) (kbs : Int32) (kag kbo kpa kdm kdn khh khn : Nat → Int32) (hf : Int64) (w : Int32) (hn6 : n ≤ 6) (qt : td ≤ 30) (qnh : nh ≤ 6) (qhh : hOK n hh nh) : Met l yX3_daysNow (mw yX3_daysNow cX3_daysNow 6 (some .int)) rm_X3_daysNow (RP D cI cB aS (MW cI cB b st n td nd nh pl bs kd ag bo pa dm dn hh hn pg sv sd ik ks ktd knd knh kbs kag kbo kpa kdm kdn khh khn hf) [.ref (b 0), .int w]) (vp_Si (fun r => r = (dyF (cbF kd ag pa hh hn td nh) td w))) 0 0 (fun _ => False) := by
  refine met_of (by decide) (Nat.le_of_ble_eq_true rfl) ?_
  intro p e s m below meth c ls hx hb hr hml hown hg hlocks hin hK hP hl
  have hown : s.vm.findClass RX3 = some m.cls := hown
  have hl : lv_has ls 6 [(0, .ref (b 0)), (1, .int w)] := hl
  refine lv_iconst (v := (nI 0)) hx hb dX3_daysNow_0 (by decide) ?_
  refine lv_istore_n (lv' := [(2, .int (nI 0)), (0, .ref (b 0)), (1, .int w)]) hx hb dX3_daysNow_1 rfl hl (by decide) rfl (fun ls hl => ?_)
  refine lv_iconst (v := (-1)) hx hb dX3_daysNow_2 (by decide) ?_
  refine lv_istore_n (lv' := [(3, .int (-1)), (2, .int (nI 0)), (0, .ref (b 0)), (1, .int w)]) hx hb dX3_daysNow_3 rfl hl (by decide) rfl (fun ls hl => ?_)
  refine lv_aload_n hx hb dX3_daysNow_4 rfl (lv_at hl 2 rfl) ?_
  refine va_get (D := D) (ci := 3) (v := .int (nI td)) (C := RX3) (T := TX3) (N := 32) hx hb hg us_X3 hown hK.1 hP 0 MW_g0 rfl 6 (by decide) (hg _ gm_407) (fun _ h9 => h9) rfl dX3_daysNow_5 ?_
  refine lv_istore (lv' := [(4, .int (nI td)), (3, .int (-1)), (2, .int (nI 0)), (0, .ref (b 0)), (1, .int w)]) hx hb dX3_daysNow_8 hl (by decide) rfl (fun ls hl => ?_)
  -- loop at 10
  refine loopR (nL := 6) (B := (td + 1)) (I := fun i => True) (lv := fun i => [(0, .ref (b 0)), (1, .int w), (2, .int (nI (cr (cbF kd ag pa hh hn td nh) (td + 1 - i) i))), (3, .int (ff (cbF kd ag pa hh hn td nh) (td + 1 - i) i)), (4, .int ((nI (td + 1 - i)) - (nI 1)))]) 0 (Nat.zero_le _) (trivial) (by show lv_has ls 6 [(0, .ref (b 0)), (1, .int w), (2, .int (nI (cr (cbF kd ag pa hh hn td nh) (td + 1 - 0) 0))), (3, .int (ff (cbF kd ag pa hh hn td nh) (td + 1 - 0) 0)), (4, .int ((nI (td + 1 - 0)) - (nI 1)))]; rw [show (cr (cbF kd ag pa hh hn td nh) (td + 1 - 0) 0) = 0 from (by first | rfl | exact sub1_s td), show (ff (cbF kd ag pa hh hn td nh) (td + 1 - 0) 0) = (-1) from (by first | rfl | exact sub1_s td), show (((nI (td + 1 - 0)) - (nI 1))) = (nI td) from (by first | rfl | exact sub1_s td)]; exact lv_sub hl [3, 4, 2, 1, 0] rfl) (fun i ls hj hI hl ih => ?_)
  have hl : lv_has ls 6 [(0, .ref (b 0)), (1, .int w), (2, .int (nI (cr (cbF kd ag pa hh hn td nh) (td + 1 - i) i))), (3, .int (ff (cbF kd ag pa hh hn td nh) (td + 1 - i) i)), (4, .int ((nI (td + 1 - i)) - (nI 1)))] := hl
  have ih_10 := ih
  refine lv_iload hx hb dX3_daysNow_10 (lv_at hl 4 rfl) ?_
  refine lv_if_lt (tgt := 54) hx hb dX3_daysNow_12 (by decide) (fun c_12 => ?_) (fun c_12 => ?_)
  · skip
    have e0 := sub1_neg (by omega) c_12
    refine lv_iload_n hx hb dX3_daysNow_54 rfl (lv_at hl 1 rfl) ?_
    refine lv_if_ne (tgt := 62) hx hb dX3_daysNow_55 (by decide) (fun (c_55 : ¬ w = nI 0) => ?_) (fun (c_55 : w = nI 0) => ?_)
    · skip
      refine lv_iload_n hx hb dX3_daysNow_62 rfl (lv_at hl 3 rfl) ?_
      exact rr_i hx hb hr hlocks dX3_daysNow_63 (by unfold dyF; rw [if_neg c_55, e0, show i = td + 1 by omega])
    · skip
      refine lv_iload_n hx hb dX3_daysNow_58 rfl (lv_at hl 2 rfl) ?_
      refine lv_goto (tgt := 63) hx hb dX3_daysNow_59 (by decide) ?_
      exact rr_i hx hb hr hlocks dX3_daysNow_63 (by unfold dyF; rw [if_pos c_55, e0, show i = td + 1 by omega, cr_0])
  · skip
    obtain ⟨k, ek⟩ := sub1_pos (by omega) c_12
    rw [show (nI (td + 1 - i)) - (nI 1) = nI k from by rw [ek]; exact sub1_s k] at hl
    refine lv_aload_n hx hb dX3_daysNow_15 rfl (lv_at hl 0 rfl) ?_
    refine lv_iload hx hb dX3_daysNow_16 (lv_at hl 4 rfl) ?_
    refine rdV (As := [.int (nI k)]) (rest := []) hx hb hml hown hg (c_X3_isHeard l D cI cB aS _ st n td nd nh pl bs kd ag bo pa dm dn hh hn pg sv sd ik ks ktd knd knh kbs kag kbo kpa kdm kdn khh khn hf k (by first | assumption | omega) (by first | assumption | omega) (by first | assumption | omega) (by first | assumption | omega) (by first | assumption | omega)) gm_619 vf_X3_isHeard ⟨Nat.le_of_ble_eq_true rfl, Nat.le_of_ble_eq_true rfl⟩ ⟨rfl, rfl⟩ ⟨Nat.zero_le _, Nat.zero_le _⟩ (RP.preV hK hP (q0 := 0) (ci := 3) MW_g0 rfl) rfl hl.1 rfl (Nat.le_of_ble_eq_true rfl) dX3_daysNow_18 ?_
    refine lv_istore (lv' := [(5, .int (bi (cbF kd ag pa hh hn td nh k = true))), (0, .ref (b 0)), (1, .int w), (2, .int (nI (cr (cbF kd ag pa hh hn td nh) (td + 1 - i) i))), (3, .int (ff (cbF kd ag pa hh hn td nh) (td + 1 - i) i)), (4, .int (nI k))]) hx hb dX3_daysNow_21 hl (by decide) rfl (fun ls hl => ?_)
    refine lv_iload_n hx hb dX3_daysNow_23 rfl (lv_at hl 3 rfl) ?_
    refine lv_iload hx hb dX3_daysNow_24 (lv_at hl 0 rfl) ?_
    refine bv_if_eq (tgt := 33) hx hb dX3_daysNow_26 (by decide) (fun c_26 => ?_) (fun c_26 => ?_)
    · skip
      refine lv_iconst (v := (nI 0)) hx hb dX3_daysNow_33 (by decide) ?_
      refine nv_iadd hx hb dX3_daysNow_34 ?_
      refine lv_istore_n (lv' := [(2, .int (nI (cr (cbF kd ag pa hh hn td nh) (td + 1 - i) i + 0))), (5, .int (bi (cbF kd ag pa hh hn td nh k = true))), (0, .ref (b 0)), (1, .int w), (3, .int (ff (cbF kd ag pa hh hn td nh) (td + 1 - i) i)), (4, .int (nI k))]) hx hb dX3_daysNow_35 rfl hl (by decide) rfl (fun ls hl => ?_)
      refine lv_iload hx hb dX3_daysNow_36 (lv_at hl 1 rfl) ?_
      refine bv_if_eq (tgt := 46) hx hb dX3_daysNow_38 (by decide) (fun c_38 => ?_) (fun c_38 => ?_)
      · skip
        refine lv_iload_n hx hb dX3_daysNow_46 rfl (lv_at hl 4 rfl) ?_
        refine lv_istore_n (lv' := [(3, .int (ff (cbF kd ag pa hh hn td nh) (td + 1 - i) i)), (2, .int (nI (cr (cbF kd ag pa hh hn td nh) (td + 1 - i) i + 0))), (5, .int (bi (cbF kd ag pa hh hn td nh k = true))), (0, .ref (b 0)), (1, .int w), (4, .int (nI k))]) hx hb dX3_daysNow_47 rfl hl (by decide) rfl (fun ls hl => ?_)
        refine lv_iinc (v := ((nI k) + Int32.ofInt (-1))) (lv' := [(4, .int ((nI k) + Int32.ofInt (-1))), (3, .int (ff (cbF kd ag pa hh hn td nh) (td + 1 - i) i)), (2, .int (nI (cr (cbF kd ag pa hh hn td nh) (td + 1 - i) i + 0))), (5, .int (bi (cbF kd ag pa hh hn td nh k = true))), (0, .ref (b 0)), (1, .int w)]) hx hb dX3_daysNow_48 hl (k := 5) rfl rfl (by decide) rfl (fun ls hl => ?_)
        refine lv_goto (tgt := 10) hx hb dX3_daysNow_51 (by decide) ?_
        exact ih_10 _ (by omega) (trivial) (by show lv_has ls 6 [(0, .ref (b 0)), (1, .int w), (2, .int (nI (cr (cbF kd ag pa hh hn td nh) (td + 1 - (i + 1)) (i + 1)))), (3, .int (ff (cbF kd ag pa hh hn td nh) (td + 1 - (i + 1)) (i + 1))), (4, .int ((nI (td + 1 - (i + 1))) - (nI 1)))]; rw [show (cr (cbF kd ag pa hh hn td nh) (td + 1 - (i + 1)) (i + 1)) = cr (cbF kd ag pa hh hn td nh) (td + 1 - i) i + 0 from (dyE1 ek c_26), show (ff (cbF kd ag pa hh hn td nh) (td + 1 - (i + 1)) (i + 1)) = ff (cbF kd ag pa hh hn td nh) (td + 1 - i) i from (dyE3 ek c_26), show ((nI (td + 1 - (i + 1))) - (nI 1)) = (nI k) + Int32.ofInt (-1) from (by rw [show td + 1 - (i + 1) = k by omega]; exact (dec_eq k).symm)]; exact lv_sub hl [4, 5, 2, 1, 0] rfl)
      · skip
        refine lv_iload hx hb dX3_daysNow_41 (lv_at hl 5 rfl) ?_
        refine lv_goto (tgt := 47) hx hb dX3_daysNow_43 (by decide) ?_
        refine lv_istore_n (lv' := [(3, .int (nI k)), (2, .int (nI (cr (cbF kd ag pa hh hn td nh) (td + 1 - i) i + 0))), (5, .int (bi (cbF kd ag pa hh hn td nh k = true))), (0, .ref (b 0)), (1, .int w), (4, .int (nI k))]) hx hb dX3_daysNow_47 rfl hl (by decide) rfl (fun ls hl => ?_)
        refine lv_iinc (v := ((nI k) + Int32.ofInt (-1))) (lv' := [(4, .int ((nI k) + Int32.ofInt (-1))), (3, .int (nI k)), (2, .int (nI (cr (cbF kd ag pa hh hn td nh) (td + 1 - i) i + 0))), (5, .int (bi (cbF kd ag pa hh hn td nh k = true))), (0, .ref (b 0)), (1, .int w)]) hx hb dX3_daysNow_48 hl (k := 5) rfl rfl (by decide) rfl (fun ls hl => ?_)
        refine lv_goto (tgt := 10) hx hb dX3_daysNow_51 (by decide) ?_
        exact ih_10 _ (by omega) (trivial) (by show lv_has ls 6 [(0, .ref (b 0)), (1, .int w), (2, .int (nI (cr (cbF kd ag pa hh hn td nh) (td + 1 - (i + 1)) (i + 1)))), (3, .int (ff (cbF kd ag pa hh hn td nh) (td + 1 - (i + 1)) (i + 1))), (4, .int ((nI (td + 1 - (i + 1))) - (nI 1)))]; rw [show (cr (cbF kd ag pa hh hn td nh) (td + 1 - (i + 1)) (i + 1)) = cr (cbF kd ag pa hh hn td nh) (td + 1 - i) i + 0 from (absurd c_38 c_26), show ((ff (cbF kd ag pa hh hn td nh) (td + 1 - (i + 1)) (i + 1))) = (nI k) from (absurd c_38 c_26), show ((nI (td + 1 - (i + 1))) - (nI 1)) = (nI k) + Int32.ofInt (-1) from (by rw [show td + 1 - (i + 1) = k by omega]; exact (dec_eq k).symm)]; exact lv_sub hl [4, 5, 2, 1, 0] rfl)
    · skip
      refine lv_iconst (v := (nI 1)) hx hb dX3_daysNow_29 (by decide) ?_
      refine lv_goto (tgt := 34) hx hb dX3_daysNow_30 (by decide) ?_
      refine nv_iadd hx hb dX3_daysNow_34 ?_
      refine lv_istore_n (lv' := [(2, .int (nI (cr (cbF kd ag pa hh hn td nh) (td + 1 - i) i + 1))), (5, .int (bi (cbF kd ag pa hh hn td nh k = true))), (0, .ref (b 0)), (1, .int w), (3, .int (ff (cbF kd ag pa hh hn td nh) (td + 1 - i) i)), (4, .int (nI k))]) hx hb dX3_daysNow_35 rfl hl (by decide) rfl (fun ls hl => ?_)
      refine lv_iload hx hb dX3_daysNow_36 (lv_at hl 1 rfl) ?_
      refine bv_if_eq (tgt := 46) hx hb dX3_daysNow_38 (by decide) (fun c_38 => ?_) (fun c_38 => ?_)
      · skip
        refine lv_iload_n hx hb dX3_daysNow_46 rfl (lv_at hl 4 rfl) ?_
        refine lv_istore_n (lv' := [(3, .int (ff (cbF kd ag pa hh hn td nh) (td + 1 - i) i)), (2, .int (nI (cr (cbF kd ag pa hh hn td nh) (td + 1 - i) i + 1))), (5, .int (bi (cbF kd ag pa hh hn td nh k = true))), (0, .ref (b 0)), (1, .int w), (4, .int (nI k))]) hx hb dX3_daysNow_47 rfl hl (by decide) rfl (fun ls hl => ?_)
        refine lv_iinc (v := ((nI k) + Int32.ofInt (-1))) (lv' := [(4, .int ((nI k) + Int32.ofInt (-1))), (3, .int (ff (cbF kd ag pa hh hn td nh) (td + 1 - i) i)), (2, .int (nI (cr (cbF kd ag pa hh hn td nh) (td + 1 - i) i + 1))), (5, .int (bi (cbF kd ag pa hh hn td nh k = true))), (0, .ref (b 0)), (1, .int w)]) hx hb dX3_daysNow_48 hl (k := 5) rfl rfl (by decide) rfl (fun ls hl => ?_)
        refine lv_goto (tgt := 10) hx hb dX3_daysNow_51 (by decide) ?_
        exact ih_10 _ (by omega) (trivial) (by show lv_has ls 6 [(0, .ref (b 0)), (1, .int w), (2, .int (nI (cr (cbF kd ag pa hh hn td nh) (td + 1 - (i + 1)) (i + 1)))), (3, .int (ff (cbF kd ag pa hh hn td nh) (td + 1 - (i + 1)) (i + 1))), (4, .int ((nI (td + 1 - (i + 1))) - (nI 1)))]; rw [show (cr (cbF kd ag pa hh hn td nh) (td + 1 - (i + 1)) (i + 1)) = cr (cbF kd ag pa hh hn td nh) (td + 1 - i) i + 1 from (absurd c_26 c_38), show (ff (cbF kd ag pa hh hn td nh) (td + 1 - (i + 1)) (i + 1)) = ff (cbF kd ag pa hh hn td nh) (td + 1 - i) i from (absurd c_26 c_38), show ((nI (td + 1 - (i + 1))) - (nI 1)) = (nI k) + Int32.ofInt (-1) from (by rw [show td + 1 - (i + 1) = k by omega]; exact (dec_eq k).symm)]; exact lv_sub hl [4, 5, 2, 1, 0] rfl)
      · skip
        refine lv_iload hx hb dX3_daysNow_41 (lv_at hl 5 rfl) ?_
        refine lv_goto (tgt := 47) hx hb dX3_daysNow_43 (by decide) ?_
        refine lv_istore_n (lv' := [(3, .int (nI k)), (2, .int (nI (cr (cbF kd ag pa hh hn td nh) (td + 1 - i) i + 1))), (5, .int (bi (cbF kd ag pa hh hn td nh k = true))), (0, .ref (b 0)), (1, .int w), (4, .int (nI k))]) hx hb dX3_daysNow_47 rfl hl (by decide) rfl (fun ls hl => ?_)
        refine lv_iinc (v := ((nI k) + Int32.ofInt (-1))) (lv' := [(4, .int ((nI k) + Int32.ofInt (-1))), (3, .int (nI k)), (2, .int (nI (cr (cbF kd ag pa hh hn td nh) (td + 1 - i) i + 1))), (5, .int (bi (cbF kd ag pa hh hn td nh k = true))), (0, .ref (b 0)), (1, .int w)]) hx hb dX3_daysNow_48 hl (k := 5) rfl rfl (by decide) rfl (fun ls hl => ?_)
        refine lv_goto (tgt := 10) hx hb dX3_daysNow_51 (by decide) ?_
        exact ih_10 _ (by omega) (trivial) (by show lv_has ls 6 [(0, .ref (b 0)), (1, .int w), (2, .int (nI (cr (cbF kd ag pa hh hn td nh) (td + 1 - (i + 1)) (i + 1)))), (3, .int (ff (cbF kd ag pa hh hn td nh) (td + 1 - (i + 1)) (i + 1))), (4, .int ((nI (td + 1 - (i + 1))) - (nI 1)))]; rw [show (cr (cbF kd ag pa hh hn td nh) (td + 1 - (i + 1)) (i + 1)) = cr (cbF kd ag pa hh hn td nh) (td + 1 - i) i + 1 from (dyE2 ek c_26), show ((ff (cbF kd ag pa hh hn td nh) (td + 1 - (i + 1)) (i + 1))) = (nI k) from (dyE4 ek c_26), show ((nI (td + 1 - (i + 1))) - (nI 1)) = (nI k) + Int32.ofInt (-1) from (by rw [show td + 1 - (i + 1) = k by omega]; exact (dec_eq k).symm)]; exact lv_sub hl [4, 5, 2, 1, 0] rfl)
abbrev rm_X3_days : Room := { frames := 4, cells := 0, slots := 0, locals := 92 }
theorem vf_X3_daysNow : vfacts RX3 yX3_daysNow cX3_daysNow 6 (some .int) 1 := ⟨⟨rfl, by decide +kernel, by decide +kernel, by decide +kernel⟩, gm_617, gm_729, gm_5, gm_618⟩
set_option maxRecDepth 100000 in
set_option maxHeartbeats 4000000 in
theorem c_X3_days (l : Launch) (D : va_G) (cI cB : ClassId) (aS : Nat) (b : Nat → Nat) (st n td nd nh pl : Nat) (bs : Int32) (kd ag bo pa dm dn hh hn pg sv : Nat → Int32) (sd : Int64) (ik : Int32) (ks ktd knd knh : Nat) (kbs : Int32) (kag kbo kpa kdm kdn khh khn : Nat → Int32) (hf : Int64) (w : Int32) (hn6 : n ≤ 6) (qt : td ≤ 30) (qnh : nh ≤ 6) (qhh : hOK n hh nh) : Met l yX3_days (mw yX3_days cX3_days 2 (some .int)) rm_X3_days (RP D cI cB aS (MW cI cB b st n td nd nh pl bs kd ag bo pa dm dn hh hn pg sv sd ik ks ktd knd knh kbs kag kbo kpa kdm kdn khh khn hf) [.ref (b 0), .int w]) (vp_Si (fun r => r = (dysF n (cbF kd ag pa hh hn td nh) td w))) 0 0 (fun _ => False) := by
  refine met_of (by decide) (Nat.le_of_ble_eq_true rfl) ?_
  intro p e s m below meth c ls hx hb hr hml hown hg hlocks hin hK hP hl
  have hown : s.vm.findClass RX3 = some m.cls := hown
  have hl : lv_has ls 2 [(0, .ref (b 0)), (1, .int w)] := hl
  refine lv_iload_n hx hb dX3_days_0 rfl (lv_at hl 1 rfl) ?_
  refine lv_iconst (v := (nI 0)) hx hb dX3_days_1 (by decide) ?_
  refine lv_iconst (v := (nI 1)) hx hb dX3_days_2 (by decide) ?_
  refine rdS (As := [.int w, .int (nI 0), .int (nI 1)]) (rest := []) hx hb hml hown hg (c_X3_within l D cI cB aS w (nI 0) (nI 1)) gm_469 sf_X3_within ⟨Nat.le_of_ble_eq_true rfl, Nat.le_of_ble_eq_true rfl⟩ ⟨rfl, rfl⟩ ⟨Nat.zero_le _, Nat.zero_le _⟩ (RP.preS hK (fun k q h => by simp at h)) rfl hl.1 rfl (Nat.le_of_ble_eq_true rfl) dX3_days_3 ?_
  refine bv_if_ne (tgt := 12) hx hb dX3_days_6 (by decide) (fun c_6 => ?_) (fun c_6 => ?_)
  · skip
    refine lv_aload_n hx hb dX3_days_12 rfl (lv_at hl 0 rfl) ?_
    refine va_get (D := D) (ci := 3) (v := .int (nI n)) (C := RX3) (T := TX3) (N := 32) hx hb hg us_X3 hown hK.1 hP 0 MW_g0 rfl 1 (by decide) (hg _ gm_402) (fun _ h9 => h9) rfl dX3_days_13 ?_
    refine nv_if_ne (tgt := 24) hx hb dX3_days_16 (by omega) (by decide) (fun c_16 => ?_) (fun c_16 => ?_)
    · skip
      refine lv_aload_n hx hb dX3_days_24 rfl (lv_at hl 0 rfl) ?_
      refine lv_iload_n hx hb dX3_days_25 rfl (lv_at hl 1 rfl) ?_
      refine rdV (As := [.int w]) (rest := []) hx hb hml hown hg (c_X3_daysNow l D cI cB aS _ st n td nd nh pl bs kd ag bo pa dm dn hh hn pg sv sd ik ks ktd knd knh kbs kag kbo kpa kdm kdn khh khn hf w (by first | assumption | omega) (by first | assumption | omega) (by first | assumption | omega) (by first | assumption | omega)) gm_616 vf_X3_daysNow ⟨Nat.le_of_ble_eq_true rfl, Nat.le_of_ble_eq_true rfl⟩ ⟨rfl, rfl⟩ ⟨Nat.zero_le _, Nat.zero_le _⟩ (RP.preV hK hP (q0 := 0) (ci := 3) MW_g0 rfl) rfl hl.1 rfl (Nat.le_of_ble_eq_true rfl) dX3_days_26 ?_
      exact rr_i hx hb hr hlocks dX3_days_29 (by unfold dysF; rw [if_pos c_6, if_neg c_16])
    · skip
      refine lv_bipush (v := (-103)) hx hb dX3_days_19 (by decide) ?_
      refine lv_goto (tgt := 29) hx hb dX3_days_21 (by decide) ?_
      exact rr_i hx hb hr hlocks dX3_days_29 (by unfold dysF; rw [if_pos c_6, if_pos c_16])
  · skip
    refine lv_bipush (v := (-102)) hx hb dX3_days_9 (by decide) ?_
    exact rr_i hx hb hr hlocks dX3_days_11 ((if_neg c_6).symm)
abbrev rm_X3_worstOf : Room := { frames := 3, cells := 0, slots := 0, locals := 67 }
set_option maxRecDepth 100000 in
set_option maxHeartbeats 4000000 in
theorem c_X3_worstOf (l : Launch) (D : va_G) (cI cB : ClassId) (aS : Nat) (b : Nat → Nat) (st n td nd nh pl : Nat) (bs : Int32) (kd ag bo pa dm dn hh hn pg sv : Nat → Int32) (sd : Int64) (ik : Int32) (ks ktd knd knh : Nat) (kbs : Int32) (kag kbo kpa kdm kdn khh khn : Nat → Int32) (hf : Int64) (j : Nat) (qj : j < 6) (hn6 : n ≤ 6) (qt : td ≤ 30) (qnh : nh ≤ 6) (qhh : hOK n hh nh) : Met l yX3_worstOf (mw yX3_worstOf cX3_worstOf 6 (some .int)) rm_X3_worstOf (RP D cI cB aS (MW cI cB b st n td nd nh pl bs kd ag bo pa dm dn hh hn pg sv sd ik ks ktd knd knh kbs kag kbo kpa kdm kdn khh khn hf) [.ref (b 0), .int (nI j)]) (vp_Si (fun r => r = (nI (woF (cbF kd ag pa hh hn td nh) (nOf kd ag pa td j) td)))) 0 0 (fun _ => False) := by
  refine met_of (by decide) (Nat.le_of_ble_eq_true rfl) ?_
  intro p e s m below meth c ls hx hb hr hml hown hg hlocks hin hK hP hl
  have hown : s.vm.findClass RX3 = some m.cls := hown
  have hl : lv_has ls 6 [(0, .ref (b 0)), (1, .int (nI j))] := hl
  refine lv_iconst (v := (nI 0)) hx hb dX3_worstOf_0 (by decide) ?_
  refine lv_istore_n (lv' := [(2, .int (nI 0)), (0, .ref (b 0)), (1, .int (nI j))]) hx hb dX3_worstOf_1 rfl hl (by decide) rfl (fun ls hl => ?_)
  refine lv_iconst (v := (nI 0)) hx hb dX3_worstOf_2 (by decide) ?_
  refine lv_istore_n (lv' := [(3, .int (nI 0)), (2, .int (nI 0)), (0, .ref (b 0)), (1, .int (nI j))]) hx hb dX3_worstOf_3 rfl hl (by decide) rfl (fun ls hl => ?_)
  -- loop at 4
  refine loopR (nL := 6) (B := (td + 1)) (I := fun i => True) (lv := fun i => [(0, .ref (b 0)), (1, .int (nI j)), (2, .int (nI (mxF (woP (cbF kd ag pa hh hn td nh) (nOf kd ag pa td j) td) i))), (3, .int (nI i))]) 0 (Nat.zero_le _) (trivial) (by show lv_has ls 6 [(0, .ref (b 0)), (1, .int (nI j)), (2, .int (nI (mxF (woP (cbF kd ag pa hh hn td nh) (nOf kd ag pa td j) td) 0))), (3, .int (nI 0))]; exact lv_sub hl [2, 3, 1, 0] rfl) (fun i ls hj hI hl ih => ?_)
  have hl : lv_has ls 6 [(0, .ref (b 0)), (1, .int (nI j)), (2, .int (nI (mxF (woP (cbF kd ag pa hh hn td nh) (nOf kd ag pa td j) td) i))), (3, .int (nI i))] := hl
  have ih_4 := ih
  refine lv_iload_n hx hb dX3_worstOf_4 rfl (lv_at hl 3 rfl) ?_
  refine lv_aload_n hx hb dX3_worstOf_5 rfl (lv_at hl 0 rfl) ?_
  refine va_get (D := D) (ci := 3) (v := .int (nI td)) (C := RX3) (T := TX3) (N := 32) hx hb hg us_X3 hown hK.1 hP 0 MW_g0 rfl 6 (by decide) (hg _ gm_407) (fun _ h9 => h9) rfl dX3_worstOf_6 ?_
  refine nv_icmp_gt (tgt := 95) hx hb dX3_worstOf_9 (by omega) (by omega) (by decide) (fun c_9 => ?_) (fun c_9 => ?_)
  · skip
    refine lv_iload_n hx hb dX3_worstOf_95 rfl (lv_at hl 2 rfl) ?_
    exact rr_i hx hb hr hlocks dX3_worstOf_96 (by rw [show i = td + 1 by omega]; rfl)
  · skip
    refine lv_iconst (v := (nI 0)) hx hb dX3_worstOf_12 (by decide) ?_
    refine lv_istore (lv' := [(4, .int (nI 0)), (0, .ref (b 0)), (1, .int (nI j)), (2, .int (nI (mxF (woP (cbF kd ag pa hh hn td nh) (nOf kd ag pa td j) td) i))), (3, .int (nI i))]) hx hb dX3_worstOf_13 hl (by decide) rfl (fun ls hl => ?_)
    refine lv_iconst (v := (nI 0)) hx hb dX3_worstOf_15 (by decide) ?_
    refine lv_istore (lv' := [(5, .int (nI 0)), (4, .int (nI 0)), (0, .ref (b 0)), (1, .int (nI j)), (2, .int (nI (mxF (woP (cbF kd ag pa hh hn td nh) (nOf kd ag pa td j) td) i))), (3, .int (nI i))]) hx hb dX3_worstOf_16 hl (by decide) rfl (fun ls hl => ?_)
    -- loop at 18
    refine loopR (nL := 6) (B := (td + 1)) (I := fun k => k = 0 ∨ (cbF kd ag pa hh hn td nh) i = true) (lv := fun k => [(0, .ref (b 0)), (1, .int (nI j)), (2, .int (nI (mxF (woP (cbF kd ag pa hh hn td nh) (nOf kd ag pa td j) td) i))), (3, .int (nI i)), (4, .int (nI (cn (woQ (cbF kd ag pa hh hn td nh) (nOf kd ag pa td j) i) k))), (5, .int (nI k))]) 0 (Nat.zero_le _) (Or.inl rfl) (by show lv_has ls 6 [(0, .ref (b 0)), (1, .int (nI j)), (2, .int (nI (mxF (woP (cbF kd ag pa hh hn td nh) (nOf kd ag pa td j) td) i))), (3, .int (nI i)), (4, .int (nI (cn (woQ (cbF kd ag pa hh hn td nh) (nOf kd ag pa td j) i) 0))), (5, .int (nI 0))]; exact lv_sub hl [2, 3, 4, 5, 1, 0] rfl) (fun k ls hj hI hl ih => ?_)
    have hl : lv_has ls 6 [(0, .ref (b 0)), (1, .int (nI j)), (2, .int (nI (mxF (woP (cbF kd ag pa hh hn td nh) (nOf kd ag pa td j) td) i))), (3, .int (nI i)), (4, .int (nI (cn (woQ (cbF kd ag pa hh hn td nh) (nOf kd ag pa td j) i) k))), (5, .int (nI k))] := hl
    have hI : k = 0 ∨ (cbF kd ag pa hh hn td nh) i = true := hI
    have b1 := mwo_le (cb := (cbF kd ag pa hh hn td nh)) (v := (nOf kd ag pa td j)) (td := td) (n := i)
    have b2 := cn_le (woQ (cbF kd ag pa hh hn td nh) (nOf kd ag pa td j) i) k
    have ih_18 := ih
    refine lv_iload hx hb dX3_worstOf_18 (lv_at hl 5 rfl) ?_
    refine lv_aload_n hx hb dX3_worstOf_20 rfl (lv_at hl 0 rfl) ?_
    refine va_get (D := D) (ci := 3) (v := .int (nI td)) (C := RX3) (T := TX3) (N := 32) hx hb hg us_X3 hown hK.1 hP 0 MW_g0 rfl 6 (by decide) (hg _ gm_407) (fun _ h9 => h9) rfl dX3_worstOf_21 ?_
    refine nv_icmp_gt (tgt := 76) hx hb dX3_worstOf_24 (by omega) (by omega) (by decide) (fun c_24 => ?_) (fun c_24 => ?_)
    · skip
      refine lv_iload hx hb dX3_worstOf_76 (lv_at hl 4 rfl) ?_
      refine lv_iload_n hx hb dX3_worstOf_78 rfl (lv_at hl 2 rfl) ?_
      refine nv_icmp_le (tgt := 87) hx hb dX3_worstOf_79 (by omega) (by omega) (by decide) (fun c_79 => ?_) (fun c_79 => ?_)
      · skip
        refine lv_iload_n hx hb dX3_worstOf_87 rfl (lv_at hl 2 rfl) ?_
        refine lv_istore_n (lv' := [(2, .int (nI (mxF (woP (cbF kd ag pa hh hn td nh) (nOf kd ag pa td j) td) i))), (0, .ref (b 0)), (1, .int (nI j)), (3, .int (nI i)), (4, .int (nI (cn (woQ (cbF kd ag pa hh hn td nh) (nOf kd ag pa td j) i) k))), (5, .int (nI k))]) hx hb dX3_worstOf_88 rfl hl (by decide) rfl (fun ls hl => ?_)
        refine lv_iinc (v := (nI (i + 1))) (lv' := [(3, .int (nI (i + 1))), (2, .int (nI (mxF (woP (cbF kd ag pa hh hn td nh) (nOf kd ag pa td j) td) i))), (0, .ref (b 0)), (1, .int (nI j)), (4, .int (nI (cn (woQ (cbF kd ag pa hh hn td nh) (nOf kd ag pa td j) i) k))), (5, .int (nI k))]) hx hb dX3_worstOf_89 hl (k := 3) rfl (nI_i1 _) (by decide) rfl (fun ls hl => ?_)
        refine lv_goto (tgt := 4) hx hb dX3_worstOf_92 (by decide) ?_
        exact ih_4 _ (by omega) (trivial) (by show lv_has ls 6 [(0, .ref (b 0)), (1, .int (nI j)), (2, .int (nI (mxF (woP (cbF kd ag pa hh hn td nh) (nOf kd ag pa td j) td) (i + 1)))), (3, .int (nI (i + 1)))]; rw [show (mxF (woP (cbF kd ag pa hh hn td nh) (nOf kd ag pa td j) td) (i + 1)) = mxF (woP (cbF kd ag pa hh hn td nh) (nOf kd ag pa td j) td) i from (mxF_1 (by rw [woP_t (hI.resolve_left (by omega)), ← show k = td + 1 by omega]; exact c_79))]; exact lv_sub hl [2, 3, 1, 0] rfl)
      · skip
        refine lv_iload hx hb dX3_worstOf_82 (lv_at hl 4 rfl) ?_
        refine lv_goto (tgt := 88) hx hb dX3_worstOf_84 (by decide) ?_
        refine lv_istore_n (lv' := [(2, .int (nI (cn (woQ (cbF kd ag pa hh hn td nh) (nOf kd ag pa td j) i) k))), (0, .ref (b 0)), (1, .int (nI j)), (3, .int (nI i)), (4, .int (nI (cn (woQ (cbF kd ag pa hh hn td nh) (nOf kd ag pa td j) i) k))), (5, .int (nI k))]) hx hb dX3_worstOf_88 rfl hl (by decide) rfl (fun ls hl => ?_)
        refine lv_iinc (v := (nI (i + 1))) (lv' := [(3, .int (nI (i + 1))), (2, .int (nI (cn (woQ (cbF kd ag pa hh hn td nh) (nOf kd ag pa td j) i) k))), (0, .ref (b 0)), (1, .int (nI j)), (4, .int (nI (cn (woQ (cbF kd ag pa hh hn td nh) (nOf kd ag pa td j) i) k))), (5, .int (nI k))]) hx hb dX3_worstOf_89 hl (k := 3) rfl (nI_i1 _) (by decide) rfl (fun ls hl => ?_)
        refine lv_goto (tgt := 4) hx hb dX3_worstOf_92 (by decide) ?_
        exact ih_4 _ (by omega) (trivial) (by show lv_has ls 6 [(0, .ref (b 0)), (1, .int (nI j)), (2, .int (nI (mxF (woP (cbF kd ag pa hh hn td nh) (nOf kd ag pa td j) td) (i + 1)))), (3, .int (nI (i + 1)))]; rw [show (mxF (woP (cbF kd ag pa hh hn td nh) (nOf kd ag pa td j) td) (i + 1)) = cn (woQ (cbF kd ag pa hh hn td nh) (nOf kd ag pa td j) i) k from (mxF_2 (by rw [woP_t (hI.resolve_left (by omega)), ← show k = td + 1 by omega]) c_79)]; exact lv_sub hl [2, 3, 1, 0] rfl)
    · skip
      refine lv_aload_n hx hb dX3_worstOf_27 rfl (lv_at hl 0 rfl) ?_
      refine lv_iload_n hx hb dX3_worstOf_28 rfl (lv_at hl 3 rfl) ?_
      refine rdV (As := [.int (nI i)]) (rest := []) hx hb hml hown hg (c_X3_isHeard l D cI cB aS _ st n td nd nh pl bs kd ag bo pa dm dn hh hn pg sv sd ik ks ktd knd knh kbs kag kbo kpa kdm kdn khh khn hf i (by first | assumption | omega) (by first | assumption | omega) (by first | assumption | omega) (by first | assumption | omega) (by first | assumption | omega)) gm_619 vf_X3_isHeard ⟨Nat.le_of_ble_eq_true rfl, Nat.le_of_ble_eq_true rfl⟩ ⟨rfl, rfl⟩ ⟨Nat.zero_le _, Nat.zero_le _⟩ (RP.preV hK hP (q0 := 0) (ci := 3) MW_g0 rfl) rfl hl.1 rfl (Nat.le_of_ble_eq_true rfl) dX3_worstOf_29 ?_
      refine bv_if_eq (tgt := 76) hx hb dX3_worstOf_32 (by decide) (fun c_32 => ?_) (fun c_32 => ?_)
      · skip
        refine lv_iload hx hb dX3_worstOf_76 (lv_at hl 4 rfl) ?_
        refine lv_iload_n hx hb dX3_worstOf_78 rfl (lv_at hl 2 rfl) ?_
        refine nv_icmp_le (tgt := 87) hx hb dX3_worstOf_79 (by omega) (by omega) (by decide) (fun c_79 => ?_) (fun c_79 => ?_)
        · skip
          refine lv_iload_n hx hb dX3_worstOf_87 rfl (lv_at hl 2 rfl) ?_
          refine lv_istore_n (lv' := [(2, .int (nI (mxF (woP (cbF kd ag pa hh hn td nh) (nOf kd ag pa td j) td) i))), (0, .ref (b 0)), (1, .int (nI j)), (3, .int (nI i)), (4, .int (nI (cn (woQ (cbF kd ag pa hh hn td nh) (nOf kd ag pa td j) i) k))), (5, .int (nI k))]) hx hb dX3_worstOf_88 rfl hl (by decide) rfl (fun ls hl => ?_)
          refine lv_iinc (v := (nI (i + 1))) (lv' := [(3, .int (nI (i + 1))), (2, .int (nI (mxF (woP (cbF kd ag pa hh hn td nh) (nOf kd ag pa td j) td) i))), (0, .ref (b 0)), (1, .int (nI j)), (4, .int (nI (cn (woQ (cbF kd ag pa hh hn td nh) (nOf kd ag pa td j) i) k))), (5, .int (nI k))]) hx hb dX3_worstOf_89 hl (k := 3) rfl (nI_i1 _) (by decide) rfl (fun ls hl => ?_)
          refine lv_goto (tgt := 4) hx hb dX3_worstOf_92 (by decide) ?_
          exact ih_4 _ (by omega) (trivial) (by show lv_has ls 6 [(0, .ref (b 0)), (1, .int (nI j)), (2, .int (nI (mxF (woP (cbF kd ag pa hh hn td nh) (nOf kd ag pa td j) td) (i + 1)))), (3, .int (nI (i + 1)))]; rw [show (mxF (woP (cbF kd ag pa hh hn td nh) (nOf kd ag pa td j) td) (i + 1)) = mxF (woP (cbF kd ag pa hh hn td nh) (nOf kd ag pa td j) td) i from (mxF_1 (by rw [woP_f c_32]; omega))]; exact lv_sub hl [2, 3, 1, 0] rfl)
        · skip
          refine lv_iload hx hb dX3_worstOf_82 (lv_at hl 4 rfl) ?_
          refine lv_goto (tgt := 88) hx hb dX3_worstOf_84 (by decide) ?_
          refine lv_istore_n (lv' := [(2, .int (nI (cn (woQ (cbF kd ag pa hh hn td nh) (nOf kd ag pa td j) i) k))), (0, .ref (b 0)), (1, .int (nI j)), (3, .int (nI i)), (4, .int (nI (cn (woQ (cbF kd ag pa hh hn td nh) (nOf kd ag pa td j) i) k))), (5, .int (nI k))]) hx hb dX3_worstOf_88 rfl hl (by decide) rfl (fun ls hl => ?_)
          refine lv_iinc (v := (nI (i + 1))) (lv' := [(3, .int (nI (i + 1))), (2, .int (nI (cn (woQ (cbF kd ag pa hh hn td nh) (nOf kd ag pa td j) i) k))), (0, .ref (b 0)), (1, .int (nI j)), (4, .int (nI (cn (woQ (cbF kd ag pa hh hn td nh) (nOf kd ag pa td j) i) k))), (5, .int (nI k))]) hx hb dX3_worstOf_89 hl (k := 3) rfl (nI_i1 _) (by decide) rfl (fun ls hl => ?_)
          refine lv_goto (tgt := 4) hx hb dX3_worstOf_92 (by decide) ?_
          exact ih_4 _ (by omega) (trivial) (by show lv_has ls 6 [(0, .ref (b 0)), (1, .int (nI j)), (2, .int (nI (mxF (woP (cbF kd ag pa hh hn td nh) (nOf kd ag pa td j) td) (i + 1)))), (3, .int (nI (i + 1)))]; rw [show (mxF (woP (cbF kd ag pa hh hn td nh) (nOf kd ag pa td j) td) (i + 1)) = cn (woQ (cbF kd ag pa hh hn td nh) (nOf kd ag pa td j) i) k from (absurd c_79 (by have e0 := hI.resolve_right c_32; subst e0; simp only [cn]; omega))]; exact lv_sub hl [2, 3, 1, 0] rfl)
      · skip
        refine lv_iload hx hb dX3_worstOf_35 (lv_at hl 4 rfl) ?_
        refine lv_aload_n hx hb dX3_worstOf_37 rfl (lv_at hl 0 rfl) ?_
        refine lv_iload hx hb dX3_worstOf_38 (lv_at hl 5 rfl) ?_
        refine rdV (As := [.int (nI k)]) (rest := [.int (nI (cn (woQ (cbF kd ag pa hh hn td nh) (nOf kd ag pa td j) i) k))]) hx hb hml hown hg (c_X3_isHeard l D cI cB aS _ st n td nd nh pl bs kd ag bo pa dm dn hh hn pg sv sd ik ks ktd knd knh kbs kag kbo kpa kdm kdn khh khn hf k (by first | assumption | omega) (by first | assumption | omega) (by first | assumption | omega) (by first | assumption | omega) (by first | assumption | omega)) gm_619 vf_X3_isHeard ⟨Nat.le_of_ble_eq_true rfl, Nat.le_of_ble_eq_true rfl⟩ ⟨rfl, rfl⟩ ⟨Nat.zero_le _, Nat.zero_le _⟩ (RP.preV hK hP (q0 := 0) (ci := 3) MW_g0 rfl) rfl hl.1 rfl (Nat.le_of_ble_eq_true rfl) dX3_worstOf_40 ?_
        refine bv_if_eq (tgt := 66) hx hb dX3_worstOf_43 (by decide) (fun c_43 => ?_) (fun c_43 => ?_)
        · skip
          refine lv_iconst (v := (nI 0)) hx hb dX3_worstOf_66 (by decide) ?_
          refine nv_iadd hx hb dX3_worstOf_67 ?_
          refine lv_istore (lv' := [(4, .int (nI (cn (woQ (cbF kd ag pa hh hn td nh) (nOf kd ag pa td j) i) k + 0))), (0, .ref (b 0)), (1, .int (nI j)), (2, .int (nI (mxF (woP (cbF kd ag pa hh hn td nh) (nOf kd ag pa td j) td) i))), (3, .int (nI i)), (5, .int (nI k))]) hx hb dX3_worstOf_68 hl (by decide) rfl (fun ls hl => ?_)
          refine lv_iinc (v := (nI (k + 1))) (lv' := [(5, .int (nI (k + 1))), (4, .int (nI (cn (woQ (cbF kd ag pa hh hn td nh) (nOf kd ag pa td j) i) k + 0))), (0, .ref (b 0)), (1, .int (nI j)), (2, .int (nI (mxF (woP (cbF kd ag pa hh hn td nh) (nOf kd ag pa td j) td) i))), (3, .int (nI i))]) hx hb dX3_worstOf_70 hl (k := 5) rfl (nI_i1 _) (by decide) rfl (fun ls hl => ?_)
          refine lv_goto (tgt := 18) hx hb dX3_worstOf_73 (by decide) ?_
          exact ih_18 _ (by omega) (Or.inr c_32) (by show lv_has ls 6 [(0, .ref (b 0)), (1, .int (nI j)), (2, .int (nI (mxF (woP (cbF kd ag pa hh hn td nh) (nOf kd ag pa td j) td) i))), (3, .int (nI i)), (4, .int (nI (cn (woQ (cbF kd ag pa hh hn td nh) (nOf kd ag pa td j) i) (k + 1)))), (5, .int (nI (k + 1)))]; rw [show (cn (woQ (cbF kd ag pa hh hn td nh) (nOf kd ag pa td j) i) (k + 1)) = cn (woQ (cbF kd ag pa hh hn td nh) (nOf kd ag pa td j) i) k + 0 from (cn_f (by unfold woQ; rw [Bool.eq_false_iff.mpr c_43]; rfl))]; exact lv_sub hl [2, 3, 4, 5, 1, 0] rfl)
        · skip
          refine lv_aload_n hx hb dX3_worstOf_46 rfl (lv_at hl 0 rfl) ?_
          refine lv_iload_n hx hb dX3_worstOf_47 rfl (lv_at hl 1 rfl) ?_
          refine lv_iload_n hx hb dX3_worstOf_48 rfl (lv_at hl 3 rfl) ?_
          refine rdV (As := [.int (nI j), .int (nI i)]) (rest := [.int (nI (cn (woQ (cbF kd ag pa hh hn td nh) (nOf kd ag pa td j) i) k))]) hx hb hml hown hg (c_X3_numberOn l D cI cB aS _ st n td nd nh pl bs kd ag bo pa dm dn hh hn pg sv sd ik ks ktd knd knh kbs kag kbo kpa kdm kdn khh khn hf j i (by first | assumption | omega) (by first | assumption | omega) (by first | assumption | omega)) gm_515 vf_X3_numberOn ⟨Nat.le_of_ble_eq_true rfl, Nat.le_of_ble_eq_true rfl⟩ ⟨rfl, rfl⟩ ⟨Nat.zero_le _, Nat.zero_le _⟩ (RP.preV hK hP (q0 := 0) (ci := 3) MW_g0 rfl) rfl hl.1 rfl (Nat.le_of_ble_eq_true rfl) dX3_worstOf_49 ?_
          refine lv_aload_n hx hb dX3_worstOf_52 rfl (lv_at hl 0 rfl) ?_
          refine lv_iload_n hx hb dX3_worstOf_53 rfl (lv_at hl 1 rfl) ?_
          refine lv_iload hx hb dX3_worstOf_54 (lv_at hl 5 rfl) ?_
          refine rdV (As := [.int (nI j), .int (nI k)]) (rest := [.int (numOn kd ag pa td j i), .int (nI (cn (woQ (cbF kd ag pa hh hn td nh) (nOf kd ag pa td j) i) k))]) hx hb hml hown hg (c_X3_numberOn l D cI cB aS _ st n td nd nh pl bs kd ag bo pa dm dn hh hn pg sv sd ik ks ktd knd knh kbs kag kbo kpa kdm kdn khh khn hf j k (by first | assumption | omega) (by first | assumption | omega) (by first | assumption | omega)) gm_515 vf_X3_numberOn ⟨Nat.le_of_ble_eq_true rfl, Nat.le_of_ble_eq_true rfl⟩ ⟨rfl, rfl⟩ ⟨Nat.zero_le _, Nat.zero_le _⟩ (RP.preV hK hP (q0 := 0) (ci := 3) MW_g0 rfl) rfl hl.1 rfl (Nat.le_of_ble_eq_true rfl) dX3_worstOf_56 ?_
          refine lv_icmp_ne (tgt := 66) hx hb dX3_worstOf_59 (by decide) (fun c_59 => ?_) (fun c_59 => ?_)
          · skip
            refine lv_iconst (v := (nI 0)) hx hb dX3_worstOf_66 (by decide) ?_
            refine nv_iadd hx hb dX3_worstOf_67 ?_
            refine lv_istore (lv' := [(4, .int (nI (cn (woQ (cbF kd ag pa hh hn td nh) (nOf kd ag pa td j) i) k + 0))), (0, .ref (b 0)), (1, .int (nI j)), (2, .int (nI (mxF (woP (cbF kd ag pa hh hn td nh) (nOf kd ag pa td j) td) i))), (3, .int (nI i)), (5, .int (nI k))]) hx hb dX3_worstOf_68 hl (by decide) rfl (fun ls hl => ?_)
            refine lv_iinc (v := (nI (k + 1))) (lv' := [(5, .int (nI (k + 1))), (4, .int (nI (cn (woQ (cbF kd ag pa hh hn td nh) (nOf kd ag pa td j) i) k + 0))), (0, .ref (b 0)), (1, .int (nI j)), (2, .int (nI (mxF (woP (cbF kd ag pa hh hn td nh) (nOf kd ag pa td j) td) i))), (3, .int (nI i))]) hx hb dX3_worstOf_70 hl (k := 5) rfl (nI_i1 _) (by decide) rfl (fun ls hl => ?_)
            refine lv_goto (tgt := 18) hx hb dX3_worstOf_73 (by decide) ?_
            exact ih_18 _ (by omega) (Or.inr c_32) (by show lv_has ls 6 [(0, .ref (b 0)), (1, .int (nI j)), (2, .int (nI (mxF (woP (cbF kd ag pa hh hn td nh) (nOf kd ag pa td j) td) i))), (3, .int (nI i)), (4, .int (nI (cn (woQ (cbF kd ag pa hh hn td nh) (nOf kd ag pa td j) i) (k + 1)))), (5, .int (nI (k + 1)))]; rw [show (cn (woQ (cbF kd ag pa hh hn td nh) (nOf kd ag pa td j) i) (k + 1)) = cn (woQ (cbF kd ag pa hh hn td nh) (nOf kd ag pa td j) i) k + 0 from (cn_f (by unfold woQ; rw [decide_eq_false c_59]; exact Bool.and_false _))]; exact lv_sub hl [2, 3, 4, 5, 1, 0] rfl)
          · skip
            refine lv_iconst (v := (nI 1)) hx hb dX3_worstOf_62 (by decide) ?_
            refine lv_goto (tgt := 67) hx hb dX3_worstOf_63 (by decide) ?_
            refine nv_iadd hx hb dX3_worstOf_67 ?_
            refine lv_istore (lv' := [(4, .int (nI (cn (woQ (cbF kd ag pa hh hn td nh) (nOf kd ag pa td j) i) k + 1))), (0, .ref (b 0)), (1, .int (nI j)), (2, .int (nI (mxF (woP (cbF kd ag pa hh hn td nh) (nOf kd ag pa td j) td) i))), (3, .int (nI i)), (5, .int (nI k))]) hx hb dX3_worstOf_68 hl (by decide) rfl (fun ls hl => ?_)
            refine lv_iinc (v := (nI (k + 1))) (lv' := [(5, .int (nI (k + 1))), (4, .int (nI (cn (woQ (cbF kd ag pa hh hn td nh) (nOf kd ag pa td j) i) k + 1))), (0, .ref (b 0)), (1, .int (nI j)), (2, .int (nI (mxF (woP (cbF kd ag pa hh hn td nh) (nOf kd ag pa td j) td) i))), (3, .int (nI i))]) hx hb dX3_worstOf_70 hl (k := 5) rfl (nI_i1 _) (by decide) rfl (fun ls hl => ?_)
            refine lv_goto (tgt := 18) hx hb dX3_worstOf_73 (by decide) ?_
            exact ih_18 _ (by omega) (Or.inr c_32) (by show lv_has ls 6 [(0, .ref (b 0)), (1, .int (nI j)), (2, .int (nI (mxF (woP (cbF kd ag pa hh hn td nh) (nOf kd ag pa td j) td) i))), (3, .int (nI i)), (4, .int (nI (cn (woQ (cbF kd ag pa hh hn td nh) (nOf kd ag pa td j) i) (k + 1)))), (5, .int (nI (k + 1)))]; rw [show (cn (woQ (cbF kd ag pa hh hn td nh) (nOf kd ag pa td j) i) (k + 1)) = cn (woQ (cbF kd ag pa hh hn td nh) (nOf kd ag pa td j) i) k + 1 from (cn_t (by unfold woQ; rw [c_43, decide_eq_true c_59]; rfl))]; exact lv_sub hl [2, 3, 4, 5, 1, 0] rfl)
abbrev rm_X3_askNow : Room := { frames := 4, cells := 0, slots := 0, locals := 92 }
theorem vf_X3_worstOf : vfacts RX3 yX3_worstOf cX3_worstOf 6 (some .int) 1 := ⟨⟨rfl, by decide +kernel, by decide +kernel, by decide +kernel⟩, gm_630, gm_732, gm_5, gm_631⟩
set_option maxRecDepth 100000 in
set_option maxHeartbeats 4000000 in
theorem c_X3_askNow (l : Launch) (D : va_G) (cI cB : ClassId) (aS : Nat) (b : Nat → Nat) (st n td nd nh pl : Nat) (bs : Int32) (kd ag bo pa dm dn hh hn pg sv : Nat → Int32) (sd : Int64) (ik : Int32) (ks ktd knd knh : Nat) (kbs : Int32) (kag kbo kpa kdm kdn khh khn : Nat → Int32) (hf : Int64)  (hn6 : n ≤ 6) (qt : td ≤ 30) (qnh : nh ≤ 6) (qhh : hOK n hh nh) : Met l yX3_askNow (mw yX3_askNow cX3_askNow 5 (some .int)) rm_X3_askNow (RP D cI cB aS (MW cI cB b st n td nd nh pl bs kd ag bo pa dm dn hh hn pg sv sd ik ks ktd knd knh kbs kag kbo kpa kdm kdn khh khn hf) [.ref (b 0)]) (vp_Si (fun r => r = (askF n kd ag pa (cbF kd ag pa hh hn td nh) td))) 0 0 (fun _ => False) := by
  refine met_of (by decide) (Nat.le_of_ble_eq_true rfl) ?_
  intro p e s m below meth c ls hx hb hr hml hown hg hlocks hin hK hP hl
  have hown : s.vm.findClass RX3 = some m.cls := hown
  have hl : lv_has ls 5 [(0, .ref (b 0))] := hl
  refine lv_iconst (v := (-1)) hx hb dX3_askNow_0 (by decide) ?_
  refine lv_istore_n (lv' := [(1, .int (-1)), (0, .ref (b 0))]) hx hb dX3_askNow_1 rfl hl (by decide) rfl (fun ls hl => ?_)
  refine lv_aload_n hx hb dX3_askNow_2 rfl (lv_at hl 1 rfl) ?_
  refine lv_iconst (v := (nI 0)) hx hb dX3_askNow_3 (by decide) ?_
  refine rdV (As := [.int (nI 0)]) (rest := []) hx hb hml hown hg (c_X3_daysNow l D cI cB aS _ st n td nd nh pl bs kd ag bo pa dm dn hh hn pg sv sd ik ks ktd knd knh kbs kag kbo kpa kdm kdn khh khn hf (nI 0) (by first | assumption | omega) (by first | assumption | omega) (by first | assumption | omega) (by first | assumption | omega)) gm_616 vf_X3_daysNow ⟨Nat.le_of_ble_eq_true rfl, Nat.le_of_ble_eq_true rfl⟩ ⟨rfl, rfl⟩ ⟨Nat.zero_le _, Nat.zero_le _⟩ (RP.preV hK hP (q0 := 0) (ci := 3) MW_g0 rfl) rfl hl.1 rfl (Nat.le_of_ble_eq_true rfl) dX3_askNow_4 ?_
  rw [show ((dyF (cbF kd ag pa hh hn td nh) td (nI 0)) : Int32) = (nI (cn (cbF kd ag pa hh hn td nh) (td + 1))) from if_pos rfl]
  refine nv_if_ne (tgt := 14) hx hb dX3_askNow_7 (by have := cn_le (cbF kd ag pa hh hn td nh) (td + 1); omega) (by decide) (fun c_7 => ?_) (fun c_7 => ?_)
  · skip
    refine lv_ldc (v := (268435456 : Int32)) hx hb hown (hg _ gm_596) dX3_askNow_14 ?_
    refine lv_istore_n (lv' := [(2, .int (268435456 : Int32)), (1, .int (-1)), (0, .ref (b 0))]) hx hb dX3_askNow_16 rfl hl (by decide) rfl (fun ls hl => ?_)
    refine lv_iconst (v := (nI 0)) hx hb dX3_askNow_17 (by decide) ?_
    refine lv_istore_n (lv' := [(3, .int (nI 0)), (2, .int (268435456 : Int32)), (1, .int (-1)), (0, .ref (b 0))]) hx hb dX3_askNow_18 rfl hl (by decide) rfl (fun ls hl => ?_)
    -- loop at 19
    refine loopR (nL := 5) (B := n) (I := fun i => True) (lv := fun i => [(0, .ref (b 0)), (1, .int (asB (fun h => woF (cbF kd ag pa hh hn td nh) (nOf kd ag pa td h) td) (f0F (cbF kd ag pa hh hn td nh) td) i)), (2, .int (nI (asL (fun h => woF (cbF kd ag pa hh hn td nh) (nOf kd ag pa td h) td) (f0F (cbF kd ag pa hh hn td nh) td) i))), (3, .int (nI i))]) 0 (Nat.zero_le _) (trivial) (by show lv_has ls 5 [(0, .ref (b 0)), (1, .int (asB (fun h => woF (cbF kd ag pa hh hn td nh) (nOf kd ag pa td h) td) (f0F (cbF kd ag pa hh hn td nh) td) 0)), (2, .int (nI (asL (fun h => woF (cbF kd ag pa hh hn td nh) (nOf kd ag pa td h) td) (f0F (cbF kd ag pa hh hn td nh) td) 0))), (3, .int (nI 0))]; rw [show (asB (fun h => woF (cbF kd ag pa hh hn td nh) (nOf kd ag pa td h) td) (f0F (cbF kd ag pa hh hn td nh) td) 0) = (-1) from (by first | rfl | (show nI (f0F _ _) = _; unfold f0F; rw [if_neg c_7]; rfl) | (show f0F _ _ = _; unfold f0F; rw [if_pos c_7])), show ((nI (asL (fun h => woF (cbF kd ag pa hh hn td nh) (nOf kd ag pa td h) td) (f0F (cbF kd ag pa hh hn td nh) td) 0))) = (268435456 : Int32) from (by first | rfl | (show nI (f0F _ _) = _; unfold f0F; rw [if_neg c_7]; rfl) | (show f0F _ _ = _; unfold f0F; rw [if_pos c_7]))]; exact lv_sub hl [3, 2, 1, 0] rfl) (fun i ls hj hI hl ih => ?_)
    have hl : lv_has ls 5 [(0, .ref (b 0)), (1, .int (asB (fun h => woF (cbF kd ag pa hh hn td nh) (nOf kd ag pa td h) td) (f0F (cbF kd ag pa hh hn td nh) td) i)), (2, .int (nI (asL (fun h => woF (cbF kd ag pa hh hn td nh) (nOf kd ag pa td h) td) (f0F (cbF kd ag pa hh hn td nh) td) i))), (3, .int (nI i))] := hl
    have ih_19 := ih
    refine lv_iload_n hx hb dX3_askNow_19 rfl (lv_at hl 3 rfl) ?_
    refine lv_aload_n hx hb dX3_askNow_20 rfl (lv_at hl 0 rfl) ?_
    refine va_get (D := D) (ci := 3) (v := .int (nI n)) (C := RX3) (T := TX3) (N := 32) hx hb hg us_X3 hown hK.1 hP 0 MW_g0 rfl 1 (by decide) (hg _ gm_402) (fun _ h9 => h9) rfl dX3_askNow_21 ?_
    refine nv_icmp_ge (tgt := 65) hx hb dX3_askNow_24 (by omega) (by omega) (by decide) (fun c_24 => ?_) (fun c_24 => ?_)
    · skip
      refine lv_iload_n hx hb dX3_askNow_65 rfl (lv_at hl 1 rfl) ?_
      exact rr_i hx hb hr hlocks dX3_askNow_66 (by unfold askF; rw [show i = n by omega])
    · skip
      refine lv_aload_n hx hb dX3_askNow_27 rfl (lv_at hl 0 rfl) ?_
      refine lv_iload_n hx hb dX3_askNow_28 rfl (lv_at hl 3 rfl) ?_
      refine rdV (As := [.int (nI i)]) (rest := []) hx hb hml hown hg (c_X3_worstOf l D cI cB aS _ st n td nd nh pl bs kd ag bo pa dm dn hh hn pg sv sd ik ks ktd knd knh kbs kag kbo kpa kdm kdn khh khn hf i (by first | assumption | omega) (by first | assumption | omega) (by first | assumption | omega) (by first | assumption | omega) (by first | assumption | omega)) gm_629 vf_X3_worstOf ⟨Nat.le_of_ble_eq_true rfl, Nat.le_of_ble_eq_true rfl⟩ ⟨rfl, rfl⟩ ⟨Nat.zero_le _, Nat.zero_le _⟩ (RP.preV hK hP (q0 := 0) (ci := 3) MW_g0 rfl) rfl hl.1 rfl (Nat.le_of_ble_eq_true rfl) dX3_askNow_29 ?_
      refine lv_istore (lv' := [(4, .int (nI (woF (cbF kd ag pa hh hn td nh) (nOf kd ag pa td i) td))), (0, .ref (b 0)), (1, .int (asB (fun h => woF (cbF kd ag pa hh hn td nh) (nOf kd ag pa td h) td) (f0F (cbF kd ag pa hh hn td nh) td) i)), (2, .int (nI (asL (fun h => woF (cbF kd ag pa hh hn td nh) (nOf kd ag pa td h) td) (f0F (cbF kd ag pa hh hn td nh) td) i))), (3, .int (nI i))]) hx hb dX3_askNow_32 hl (by decide) rfl (fun ls hl => ?_)
      refine lv_iload hx hb dX3_askNow_34 (lv_at hl 0 rfl) ?_
      refine lv_iload_n hx hb dX3_askNow_36 rfl (lv_at hl 3 rfl) ?_
      refine nv_icmp_ge (tgt := 44) hx hb dX3_askNow_37 (by have := woF_le (cb := (cbF kd ag pa hh hn td nh)) (v := nOf kd ag pa td i) (td := td); omega) (by have := asL_le (w := (fun h => woF (cbF kd ag pa hh hn td nh) (nOf kd ag pa td h) td)) (f0 := (f0F (cbF kd ag pa hh hn td nh) td)) (h := i); have := f0F_le (cb := (cbF kd ag pa hh hn td nh)) (td := td); omega) (by decide) (fun c_37 => ?_) (fun c_37 => ?_)
      · skip
        refine lv_iload_n hx hb dX3_askNow_44 rfl (lv_at hl 2 rfl) ?_
        refine lv_istore_n (lv' := [(1, .int (asB (fun h => woF (cbF kd ag pa hh hn td nh) (nOf kd ag pa td h) td) (f0F (cbF kd ag pa hh hn td nh) td) i)), (4, .int (nI (woF (cbF kd ag pa hh hn td nh) (nOf kd ag pa td i) td))), (0, .ref (b 0)), (2, .int (nI (asL (fun h => woF (cbF kd ag pa hh hn td nh) (nOf kd ag pa td h) td) (f0F (cbF kd ag pa hh hn td nh) td) i))), (3, .int (nI i))]) hx hb dX3_askNow_45 rfl hl (by decide) rfl (fun ls hl => ?_)
        refine lv_iload hx hb dX3_askNow_46 (lv_at hl 1 rfl) ?_
        refine lv_iload_n hx hb dX3_askNow_48 rfl (lv_at hl 3 rfl) ?_
        refine nv_icmp_ge (tgt := 57) hx hb dX3_askNow_49 (by have := woF_le (cb := (cbF kd ag pa hh hn td nh)) (v := nOf kd ag pa td i) (td := td); omega) (by have := asL_le (w := (fun h => woF (cbF kd ag pa hh hn td nh) (nOf kd ag pa td h) td)) (f0 := (f0F (cbF kd ag pa hh hn td nh) td)) (h := i); have := f0F_le (cb := (cbF kd ag pa hh hn td nh)) (td := td); omega) (by decide) (fun c_49 => ?_) (fun c_49 => ?_)
        · skip
          refine lv_iload_n hx hb dX3_askNow_57 rfl (lv_at hl 3 rfl) ?_
          refine lv_istore_n (lv' := [(2, .int (nI (asL (fun h => woF (cbF kd ag pa hh hn td nh) (nOf kd ag pa td h) td) (f0F (cbF kd ag pa hh hn td nh) td) i))), (1, .int (asB (fun h => woF (cbF kd ag pa hh hn td nh) (nOf kd ag pa td h) td) (f0F (cbF kd ag pa hh hn td nh) td) i)), (4, .int (nI (woF (cbF kd ag pa hh hn td nh) (nOf kd ag pa td i) td))), (0, .ref (b 0)), (3, .int (nI i))]) hx hb dX3_askNow_58 rfl hl (by decide) rfl (fun ls hl => ?_)
          refine lv_iinc (v := (nI (i + 1))) (lv' := [(3, .int (nI (i + 1))), (2, .int (nI (asL (fun h => woF (cbF kd ag pa hh hn td nh) (nOf kd ag pa td h) td) (f0F (cbF kd ag pa hh hn td nh) td) i))), (1, .int (asB (fun h => woF (cbF kd ag pa hh hn td nh) (nOf kd ag pa td h) td) (f0F (cbF kd ag pa hh hn td nh) td) i)), (4, .int (nI (woF (cbF kd ag pa hh hn td nh) (nOf kd ag pa td i) td))), (0, .ref (b 0))]) hx hb dX3_askNow_59 hl (k := 4) rfl (nI_i1 _) (by decide) rfl (fun ls hl => ?_)
          refine lv_goto (tgt := 19) hx hb dX3_askNow_62 (by decide) ?_
          exact ih_19 _ (by omega) (trivial) (by show lv_has ls 5 [(0, .ref (b 0)), (1, .int (asB (fun h => woF (cbF kd ag pa hh hn td nh) (nOf kd ag pa td h) td) (f0F (cbF kd ag pa hh hn td nh) td) (i + 1))), (2, .int (nI (asL (fun h => woF (cbF kd ag pa hh hn td nh) (nOf kd ag pa td h) td) (f0F (cbF kd ag pa hh hn td nh) td) (i + 1)))), (3, .int (nI (i + 1)))]; rw [show (asB (fun h => woF (cbF kd ag pa hh hn td nh) (nOf kd ag pa td h) td) (f0F (cbF kd ag pa hh hn td nh) td) (i + 1)) = asB (fun h => woF (cbF kd ag pa hh hn td nh) (nOf kd ag pa td h) td) (f0F (cbF kd ag pa hh hn td nh) td) i from (asB_1 rfl c_37), show (asL (fun h => woF (cbF kd ag pa hh hn td nh) (nOf kd ag pa td h) td) (f0F (cbF kd ag pa hh hn td nh) td) (i + 1)) = asL (fun h => woF (cbF kd ag pa hh hn td nh) (nOf kd ag pa td h) td) (f0F (cbF kd ag pa hh hn td nh) td) i from (asL_1 rfl c_37)]; exact lv_sub hl [4, 2, 1, 0] rfl)
        · skip
          refine lv_iload hx hb dX3_askNow_52 (lv_at hl 1 rfl) ?_
          refine lv_goto (tgt := 58) hx hb dX3_askNow_54 (by decide) ?_
          refine lv_istore_n (lv' := [(2, .int (nI (woF (cbF kd ag pa hh hn td nh) (nOf kd ag pa td i) td))), (1, .int (asB (fun h => woF (cbF kd ag pa hh hn td nh) (nOf kd ag pa td h) td) (f0F (cbF kd ag pa hh hn td nh) td) i)), (4, .int (nI (woF (cbF kd ag pa hh hn td nh) (nOf kd ag pa td i) td))), (0, .ref (b 0)), (3, .int (nI i))]) hx hb dX3_askNow_58 rfl hl (by decide) rfl (fun ls hl => ?_)
          refine lv_iinc (v := (nI (i + 1))) (lv' := [(3, .int (nI (i + 1))), (2, .int (nI (woF (cbF kd ag pa hh hn td nh) (nOf kd ag pa td i) td))), (1, .int (asB (fun h => woF (cbF kd ag pa hh hn td nh) (nOf kd ag pa td h) td) (f0F (cbF kd ag pa hh hn td nh) td) i)), (4, .int (nI (woF (cbF kd ag pa hh hn td nh) (nOf kd ag pa td i) td))), (0, .ref (b 0))]) hx hb dX3_askNow_59 hl (k := 4) rfl (nI_i1 _) (by decide) rfl (fun ls hl => ?_)
          refine lv_goto (tgt := 19) hx hb dX3_askNow_62 (by decide) ?_
          exact ih_19 _ (by omega) (trivial) (by show lv_has ls 5 [(0, .ref (b 0)), (1, .int (asB (fun h => woF (cbF kd ag pa hh hn td nh) (nOf kd ag pa td h) td) (f0F (cbF kd ag pa hh hn td nh) td) (i + 1))), (2, .int (nI (asL (fun h => woF (cbF kd ag pa hh hn td nh) (nOf kd ag pa td h) td) (f0F (cbF kd ag pa hh hn td nh) td) (i + 1)))), (3, .int (nI (i + 1)))]; rw [show (asB (fun h => woF (cbF kd ag pa hh hn td nh) (nOf kd ag pa td h) td) (f0F (cbF kd ag pa hh hn td nh) td) (i + 1)) = asB (fun h => woF (cbF kd ag pa hh hn td nh) (nOf kd ag pa td h) td) (f0F (cbF kd ag pa hh hn td nh) td) i from (absurd c_49 (by omega)), show (asL (fun h => woF (cbF kd ag pa hh hn td nh) (nOf kd ag pa td h) td) (f0F (cbF kd ag pa hh hn td nh) td) (i + 1)) = woF (cbF kd ag pa hh hn td nh) (nOf kd ag pa td i) td from (absurd c_49 (by omega))]; exact lv_sub hl [4, 2, 1, 0] rfl)
      · skip
        refine lv_iload_n hx hb dX3_askNow_40 rfl (lv_at hl 4 rfl) ?_
        refine lv_goto (tgt := 45) hx hb dX3_askNow_41 (by decide) ?_
        refine lv_istore_n (lv' := [(1, .int (nI i)), (4, .int (nI (woF (cbF kd ag pa hh hn td nh) (nOf kd ag pa td i) td))), (0, .ref (b 0)), (2, .int (nI (asL (fun h => woF (cbF kd ag pa hh hn td nh) (nOf kd ag pa td h) td) (f0F (cbF kd ag pa hh hn td nh) td) i))), (3, .int (nI i))]) hx hb dX3_askNow_45 rfl hl (by decide) rfl (fun ls hl => ?_)
        refine lv_iload hx hb dX3_askNow_46 (lv_at hl 1 rfl) ?_
        refine lv_iload_n hx hb dX3_askNow_48 rfl (lv_at hl 3 rfl) ?_
        refine nv_icmp_ge (tgt := 57) hx hb dX3_askNow_49 (by have := woF_le (cb := (cbF kd ag pa hh hn td nh)) (v := nOf kd ag pa td i) (td := td); omega) (by have := asL_le (w := (fun h => woF (cbF kd ag pa hh hn td nh) (nOf kd ag pa td h) td)) (f0 := (f0F (cbF kd ag pa hh hn td nh) td)) (h := i); have := f0F_le (cb := (cbF kd ag pa hh hn td nh)) (td := td); omega) (by decide) (fun c_49 => ?_) (fun c_49 => ?_)
        · skip
          refine lv_iload_n hx hb dX3_askNow_57 rfl (lv_at hl 3 rfl) ?_
          refine lv_istore_n (lv' := [(2, .int (nI (asL (fun h => woF (cbF kd ag pa hh hn td nh) (nOf kd ag pa td h) td) (f0F (cbF kd ag pa hh hn td nh) td) i))), (1, .int (nI i)), (4, .int (nI (woF (cbF kd ag pa hh hn td nh) (nOf kd ag pa td i) td))), (0, .ref (b 0)), (3, .int (nI i))]) hx hb dX3_askNow_58 rfl hl (by decide) rfl (fun ls hl => ?_)
          refine lv_iinc (v := (nI (i + 1))) (lv' := [(3, .int (nI (i + 1))), (2, .int (nI (asL (fun h => woF (cbF kd ag pa hh hn td nh) (nOf kd ag pa td h) td) (f0F (cbF kd ag pa hh hn td nh) td) i))), (1, .int (nI i)), (4, .int (nI (woF (cbF kd ag pa hh hn td nh) (nOf kd ag pa td i) td))), (0, .ref (b 0))]) hx hb dX3_askNow_59 hl (k := 4) rfl (nI_i1 _) (by decide) rfl (fun ls hl => ?_)
          refine lv_goto (tgt := 19) hx hb dX3_askNow_62 (by decide) ?_
          exact ih_19 _ (by omega) (trivial) (by show lv_has ls 5 [(0, .ref (b 0)), (1, .int (asB (fun h => woF (cbF kd ag pa hh hn td nh) (nOf kd ag pa td h) td) (f0F (cbF kd ag pa hh hn td nh) td) (i + 1))), (2, .int (nI (asL (fun h => woF (cbF kd ag pa hh hn td nh) (nOf kd ag pa td h) td) (f0F (cbF kd ag pa hh hn td nh) td) (i + 1)))), (3, .int (nI (i + 1)))]; rw [show ((asB (fun h => woF (cbF kd ag pa hh hn td nh) (nOf kd ag pa td h) td) (f0F (cbF kd ag pa hh hn td nh) td) (i + 1))) = (nI i) from (absurd c_49 (by omega)), show (asL (fun h => woF (cbF kd ag pa hh hn td nh) (nOf kd ag pa td h) td) (f0F (cbF kd ag pa hh hn td nh) td) (i + 1)) = asL (fun h => woF (cbF kd ag pa hh hn td nh) (nOf kd ag pa td h) td) (f0F (cbF kd ag pa hh hn td nh) td) i from (absurd c_49 (by omega))]; exact lv_sub hl [4, 2, 1, 0] rfl)
        · skip
          refine lv_iload hx hb dX3_askNow_52 (lv_at hl 1 rfl) ?_
          refine lv_goto (tgt := 58) hx hb dX3_askNow_54 (by decide) ?_
          refine lv_istore_n (lv' := [(2, .int (nI (woF (cbF kd ag pa hh hn td nh) (nOf kd ag pa td i) td))), (1, .int (nI i)), (4, .int (nI (woF (cbF kd ag pa hh hn td nh) (nOf kd ag pa td i) td))), (0, .ref (b 0)), (3, .int (nI i))]) hx hb dX3_askNow_58 rfl hl (by decide) rfl (fun ls hl => ?_)
          refine lv_iinc (v := (nI (i + 1))) (lv' := [(3, .int (nI (i + 1))), (2, .int (nI (woF (cbF kd ag pa hh hn td nh) (nOf kd ag pa td i) td))), (1, .int (nI i)), (4, .int (nI (woF (cbF kd ag pa hh hn td nh) (nOf kd ag pa td i) td))), (0, .ref (b 0))]) hx hb dX3_askNow_59 hl (k := 4) rfl (nI_i1 _) (by decide) rfl (fun ls hl => ?_)
          refine lv_goto (tgt := 19) hx hb dX3_askNow_62 (by decide) ?_
          exact ih_19 _ (by omega) (trivial) (by show lv_has ls 5 [(0, .ref (b 0)), (1, .int (asB (fun h => woF (cbF kd ag pa hh hn td nh) (nOf kd ag pa td h) td) (f0F (cbF kd ag pa hh hn td nh) td) (i + 1))), (2, .int (nI (asL (fun h => woF (cbF kd ag pa hh hn td nh) (nOf kd ag pa td h) td) (f0F (cbF kd ag pa hh hn td nh) td) (i + 1)))), (3, .int (nI (i + 1)))]; rw [show ((asB (fun h => woF (cbF kd ag pa hh hn td nh) (nOf kd ag pa td h) td) (f0F (cbF kd ag pa hh hn td nh) td) (i + 1))) = (nI i) from (asB_2 rfl c_37), show (asL (fun h => woF (cbF kd ag pa hh hn td nh) (nOf kd ag pa td h) td) (f0F (cbF kd ag pa hh hn td nh) td) (i + 1)) = woF (cbF kd ag pa hh hn td nh) (nOf kd ag pa td i) td from (asL_2 rfl c_37)]; exact lv_sub hl [4, 2, 1, 0] rfl)
  · skip
    refine lv_iconst (v := (nI 0)) hx hb dX3_askNow_10 (by decide) ?_
    refine lv_goto (tgt := 16) hx hb dX3_askNow_11 (by decide) ?_
    refine lv_istore_n (lv' := [(2, .int (nI 0)), (1, .int (-1)), (0, .ref (b 0))]) hx hb dX3_askNow_16 rfl hl (by decide) rfl (fun ls hl => ?_)
    refine lv_iconst (v := (nI 0)) hx hb dX3_askNow_17 (by decide) ?_
    refine lv_istore_n (lv' := [(3, .int (nI 0)), (2, .int (nI 0)), (1, .int (-1)), (0, .ref (b 0))]) hx hb dX3_askNow_18 rfl hl (by decide) rfl (fun ls hl => ?_)
    -- loop at 19
    refine loopR (nL := 5) (B := n) (I := fun i => True) (lv := fun i => [(0, .ref (b 0)), (1, .int (asB (fun h => woF (cbF kd ag pa hh hn td nh) (nOf kd ag pa td h) td) (f0F (cbF kd ag pa hh hn td nh) td) i)), (2, .int (nI (asL (fun h => woF (cbF kd ag pa hh hn td nh) (nOf kd ag pa td h) td) (f0F (cbF kd ag pa hh hn td nh) td) i))), (3, .int (nI i))]) 0 (Nat.zero_le _) (trivial) (by show lv_has ls 5 [(0, .ref (b 0)), (1, .int (asB (fun h => woF (cbF kd ag pa hh hn td nh) (nOf kd ag pa td h) td) (f0F (cbF kd ag pa hh hn td nh) td) 0)), (2, .int (nI (asL (fun h => woF (cbF kd ag pa hh hn td nh) (nOf kd ag pa td h) td) (f0F (cbF kd ag pa hh hn td nh) td) 0))), (3, .int (nI 0))]; rw [show (asB (fun h => woF (cbF kd ag pa hh hn td nh) (nOf kd ag pa td h) td) (f0F (cbF kd ag pa hh hn td nh) td) 0) = (-1) from (by first | rfl | (show nI (f0F _ _) = _; unfold f0F; rw [if_neg c_7]; rfl) | (show f0F _ _ = _; unfold f0F; rw [if_pos c_7])), show (asL (fun h => woF (cbF kd ag pa hh hn td nh) (nOf kd ag pa td h) td) (f0F (cbF kd ag pa hh hn td nh) td) 0) = 0 from (by first | rfl | (show nI (f0F _ _) = _; unfold f0F; rw [if_neg c_7]; rfl) | (show f0F _ _ = _; unfold f0F; rw [if_pos c_7]))]; exact lv_sub hl [3, 2, 1, 0] rfl) (fun i ls hj hI hl ih => ?_)
    have hl : lv_has ls 5 [(0, .ref (b 0)), (1, .int (asB (fun h => woF (cbF kd ag pa hh hn td nh) (nOf kd ag pa td h) td) (f0F (cbF kd ag pa hh hn td nh) td) i)), (2, .int (nI (asL (fun h => woF (cbF kd ag pa hh hn td nh) (nOf kd ag pa td h) td) (f0F (cbF kd ag pa hh hn td nh) td) i))), (3, .int (nI i))] := hl
    have ih_19 := ih
    refine lv_iload_n hx hb dX3_askNow_19 rfl (lv_at hl 3 rfl) ?_
    refine lv_aload_n hx hb dX3_askNow_20 rfl (lv_at hl 0 rfl) ?_
    refine va_get (D := D) (ci := 3) (v := .int (nI n)) (C := RX3) (T := TX3) (N := 32) hx hb hg us_X3 hown hK.1 hP 0 MW_g0 rfl 1 (by decide) (hg _ gm_402) (fun _ h9 => h9) rfl dX3_askNow_21 ?_
    refine nv_icmp_ge (tgt := 65) hx hb dX3_askNow_24 (by omega) (by omega) (by decide) (fun c_24 => ?_) (fun c_24 => ?_)
    · skip
      refine lv_iload_n hx hb dX3_askNow_65 rfl (lv_at hl 1 rfl) ?_
      exact rr_i hx hb hr hlocks dX3_askNow_66 (by unfold askF; rw [show i = n by omega])
    · skip
      refine lv_aload_n hx hb dX3_askNow_27 rfl (lv_at hl 0 rfl) ?_
      refine lv_iload_n hx hb dX3_askNow_28 rfl (lv_at hl 3 rfl) ?_
      refine rdV (As := [.int (nI i)]) (rest := []) hx hb hml hown hg (c_X3_worstOf l D cI cB aS _ st n td nd nh pl bs kd ag bo pa dm dn hh hn pg sv sd ik ks ktd knd knh kbs kag kbo kpa kdm kdn khh khn hf i (by first | assumption | omega) (by first | assumption | omega) (by first | assumption | omega) (by first | assumption | omega) (by first | assumption | omega)) gm_629 vf_X3_worstOf ⟨Nat.le_of_ble_eq_true rfl, Nat.le_of_ble_eq_true rfl⟩ ⟨rfl, rfl⟩ ⟨Nat.zero_le _, Nat.zero_le _⟩ (RP.preV hK hP (q0 := 0) (ci := 3) MW_g0 rfl) rfl hl.1 rfl (Nat.le_of_ble_eq_true rfl) dX3_askNow_29 ?_
      refine lv_istore (lv' := [(4, .int (nI (woF (cbF kd ag pa hh hn td nh) (nOf kd ag pa td i) td))), (0, .ref (b 0)), (1, .int (asB (fun h => woF (cbF kd ag pa hh hn td nh) (nOf kd ag pa td h) td) (f0F (cbF kd ag pa hh hn td nh) td) i)), (2, .int (nI (asL (fun h => woF (cbF kd ag pa hh hn td nh) (nOf kd ag pa td h) td) (f0F (cbF kd ag pa hh hn td nh) td) i))), (3, .int (nI i))]) hx hb dX3_askNow_32 hl (by decide) rfl (fun ls hl => ?_)
      refine lv_iload hx hb dX3_askNow_34 (lv_at hl 0 rfl) ?_
      refine lv_iload_n hx hb dX3_askNow_36 rfl (lv_at hl 3 rfl) ?_
      refine nv_icmp_ge (tgt := 44) hx hb dX3_askNow_37 (by have := woF_le (cb := (cbF kd ag pa hh hn td nh)) (v := nOf kd ag pa td i) (td := td); omega) (by have := asL_le (w := (fun h => woF (cbF kd ag pa hh hn td nh) (nOf kd ag pa td h) td)) (f0 := (f0F (cbF kd ag pa hh hn td nh) td)) (h := i); have := f0F_le (cb := (cbF kd ag pa hh hn td nh)) (td := td); omega) (by decide) (fun c_37 => ?_) (fun c_37 => ?_)
      · skip
        refine lv_iload_n hx hb dX3_askNow_44 rfl (lv_at hl 2 rfl) ?_
        refine lv_istore_n (lv' := [(1, .int (asB (fun h => woF (cbF kd ag pa hh hn td nh) (nOf kd ag pa td h) td) (f0F (cbF kd ag pa hh hn td nh) td) i)), (4, .int (nI (woF (cbF kd ag pa hh hn td nh) (nOf kd ag pa td i) td))), (0, .ref (b 0)), (2, .int (nI (asL (fun h => woF (cbF kd ag pa hh hn td nh) (nOf kd ag pa td h) td) (f0F (cbF kd ag pa hh hn td nh) td) i))), (3, .int (nI i))]) hx hb dX3_askNow_45 rfl hl (by decide) rfl (fun ls hl => ?_)
        refine lv_iload hx hb dX3_askNow_46 (lv_at hl 1 rfl) ?_
        refine lv_iload_n hx hb dX3_askNow_48 rfl (lv_at hl 3 rfl) ?_
        refine nv_icmp_ge (tgt := 57) hx hb dX3_askNow_49 (by have := woF_le (cb := (cbF kd ag pa hh hn td nh)) (v := nOf kd ag pa td i) (td := td); omega) (by have := asL_le (w := (fun h => woF (cbF kd ag pa hh hn td nh) (nOf kd ag pa td h) td)) (f0 := (f0F (cbF kd ag pa hh hn td nh) td)) (h := i); have := f0F_le (cb := (cbF kd ag pa hh hn td nh)) (td := td); omega) (by decide) (fun c_49 => ?_) (fun c_49 => ?_)
        · skip
          refine lv_iload_n hx hb dX3_askNow_57 rfl (lv_at hl 3 rfl) ?_
          refine lv_istore_n (lv' := [(2, .int (nI (asL (fun h => woF (cbF kd ag pa hh hn td nh) (nOf kd ag pa td h) td) (f0F (cbF kd ag pa hh hn td nh) td) i))), (1, .int (asB (fun h => woF (cbF kd ag pa hh hn td nh) (nOf kd ag pa td h) td) (f0F (cbF kd ag pa hh hn td nh) td) i)), (4, .int (nI (woF (cbF kd ag pa hh hn td nh) (nOf kd ag pa td i) td))), (0, .ref (b 0)), (3, .int (nI i))]) hx hb dX3_askNow_58 rfl hl (by decide) rfl (fun ls hl => ?_)
          refine lv_iinc (v := (nI (i + 1))) (lv' := [(3, .int (nI (i + 1))), (2, .int (nI (asL (fun h => woF (cbF kd ag pa hh hn td nh) (nOf kd ag pa td h) td) (f0F (cbF kd ag pa hh hn td nh) td) i))), (1, .int (asB (fun h => woF (cbF kd ag pa hh hn td nh) (nOf kd ag pa td h) td) (f0F (cbF kd ag pa hh hn td nh) td) i)), (4, .int (nI (woF (cbF kd ag pa hh hn td nh) (nOf kd ag pa td i) td))), (0, .ref (b 0))]) hx hb dX3_askNow_59 hl (k := 4) rfl (nI_i1 _) (by decide) rfl (fun ls hl => ?_)
          refine lv_goto (tgt := 19) hx hb dX3_askNow_62 (by decide) ?_
          exact ih_19 _ (by omega) (trivial) (by show lv_has ls 5 [(0, .ref (b 0)), (1, .int (asB (fun h => woF (cbF kd ag pa hh hn td nh) (nOf kd ag pa td h) td) (f0F (cbF kd ag pa hh hn td nh) td) (i + 1))), (2, .int (nI (asL (fun h => woF (cbF kd ag pa hh hn td nh) (nOf kd ag pa td h) td) (f0F (cbF kd ag pa hh hn td nh) td) (i + 1)))), (3, .int (nI (i + 1)))]; rw [show (asB (fun h => woF (cbF kd ag pa hh hn td nh) (nOf kd ag pa td h) td) (f0F (cbF kd ag pa hh hn td nh) td) (i + 1)) = asB (fun h => woF (cbF kd ag pa hh hn td nh) (nOf kd ag pa td h) td) (f0F (cbF kd ag pa hh hn td nh) td) i from (asB_1 rfl c_37), show (asL (fun h => woF (cbF kd ag pa hh hn td nh) (nOf kd ag pa td h) td) (f0F (cbF kd ag pa hh hn td nh) td) (i + 1)) = asL (fun h => woF (cbF kd ag pa hh hn td nh) (nOf kd ag pa td h) td) (f0F (cbF kd ag pa hh hn td nh) td) i from (asL_1 rfl c_37)]; exact lv_sub hl [4, 2, 1, 0] rfl)
        · skip
          refine lv_iload hx hb dX3_askNow_52 (lv_at hl 1 rfl) ?_
          refine lv_goto (tgt := 58) hx hb dX3_askNow_54 (by decide) ?_
          refine lv_istore_n (lv' := [(2, .int (nI (woF (cbF kd ag pa hh hn td nh) (nOf kd ag pa td i) td))), (1, .int (asB (fun h => woF (cbF kd ag pa hh hn td nh) (nOf kd ag pa td h) td) (f0F (cbF kd ag pa hh hn td nh) td) i)), (4, .int (nI (woF (cbF kd ag pa hh hn td nh) (nOf kd ag pa td i) td))), (0, .ref (b 0)), (3, .int (nI i))]) hx hb dX3_askNow_58 rfl hl (by decide) rfl (fun ls hl => ?_)
          refine lv_iinc (v := (nI (i + 1))) (lv' := [(3, .int (nI (i + 1))), (2, .int (nI (woF (cbF kd ag pa hh hn td nh) (nOf kd ag pa td i) td))), (1, .int (asB (fun h => woF (cbF kd ag pa hh hn td nh) (nOf kd ag pa td h) td) (f0F (cbF kd ag pa hh hn td nh) td) i)), (4, .int (nI (woF (cbF kd ag pa hh hn td nh) (nOf kd ag pa td i) td))), (0, .ref (b 0))]) hx hb dX3_askNow_59 hl (k := 4) rfl (nI_i1 _) (by decide) rfl (fun ls hl => ?_)
          refine lv_goto (tgt := 19) hx hb dX3_askNow_62 (by decide) ?_
          exact ih_19 _ (by omega) (trivial) (by show lv_has ls 5 [(0, .ref (b 0)), (1, .int (asB (fun h => woF (cbF kd ag pa hh hn td nh) (nOf kd ag pa td h) td) (f0F (cbF kd ag pa hh hn td nh) td) (i + 1))), (2, .int (nI (asL (fun h => woF (cbF kd ag pa hh hn td nh) (nOf kd ag pa td h) td) (f0F (cbF kd ag pa hh hn td nh) td) (i + 1)))), (3, .int (nI (i + 1)))]; rw [show (asB (fun h => woF (cbF kd ag pa hh hn td nh) (nOf kd ag pa td h) td) (f0F (cbF kd ag pa hh hn td nh) td) (i + 1)) = asB (fun h => woF (cbF kd ag pa hh hn td nh) (nOf kd ag pa td h) td) (f0F (cbF kd ag pa hh hn td nh) td) i from (absurd c_49 (by omega)), show (asL (fun h => woF (cbF kd ag pa hh hn td nh) (nOf kd ag pa td h) td) (f0F (cbF kd ag pa hh hn td nh) td) (i + 1)) = woF (cbF kd ag pa hh hn td nh) (nOf kd ag pa td i) td from (absurd c_49 (by omega))]; exact lv_sub hl [4, 2, 1, 0] rfl)
      · skip
        refine lv_iload_n hx hb dX3_askNow_40 rfl (lv_at hl 4 rfl) ?_
        refine lv_goto (tgt := 45) hx hb dX3_askNow_41 (by decide) ?_
        refine lv_istore_n (lv' := [(1, .int (nI i)), (4, .int (nI (woF (cbF kd ag pa hh hn td nh) (nOf kd ag pa td i) td))), (0, .ref (b 0)), (2, .int (nI (asL (fun h => woF (cbF kd ag pa hh hn td nh) (nOf kd ag pa td h) td) (f0F (cbF kd ag pa hh hn td nh) td) i))), (3, .int (nI i))]) hx hb dX3_askNow_45 rfl hl (by decide) rfl (fun ls hl => ?_)
        refine lv_iload hx hb dX3_askNow_46 (lv_at hl 1 rfl) ?_
        refine lv_iload_n hx hb dX3_askNow_48 rfl (lv_at hl 3 rfl) ?_
        refine nv_icmp_ge (tgt := 57) hx hb dX3_askNow_49 (by have := woF_le (cb := (cbF kd ag pa hh hn td nh)) (v := nOf kd ag pa td i) (td := td); omega) (by have := asL_le (w := (fun h => woF (cbF kd ag pa hh hn td nh) (nOf kd ag pa td h) td)) (f0 := (f0F (cbF kd ag pa hh hn td nh) td)) (h := i); have := f0F_le (cb := (cbF kd ag pa hh hn td nh)) (td := td); omega) (by decide) (fun c_49 => ?_) (fun c_49 => ?_)
        · skip
          refine lv_iload_n hx hb dX3_askNow_57 rfl (lv_at hl 3 rfl) ?_
          refine lv_istore_n (lv' := [(2, .int (nI (asL (fun h => woF (cbF kd ag pa hh hn td nh) (nOf kd ag pa td h) td) (f0F (cbF kd ag pa hh hn td nh) td) i))), (1, .int (nI i)), (4, .int (nI (woF (cbF kd ag pa hh hn td nh) (nOf kd ag pa td i) td))), (0, .ref (b 0)), (3, .int (nI i))]) hx hb dX3_askNow_58 rfl hl (by decide) rfl (fun ls hl => ?_)
          refine lv_iinc (v := (nI (i + 1))) (lv' := [(3, .int (nI (i + 1))), (2, .int (nI (asL (fun h => woF (cbF kd ag pa hh hn td nh) (nOf kd ag pa td h) td) (f0F (cbF kd ag pa hh hn td nh) td) i))), (1, .int (nI i)), (4, .int (nI (woF (cbF kd ag pa hh hn td nh) (nOf kd ag pa td i) td))), (0, .ref (b 0))]) hx hb dX3_askNow_59 hl (k := 4) rfl (nI_i1 _) (by decide) rfl (fun ls hl => ?_)
          refine lv_goto (tgt := 19) hx hb dX3_askNow_62 (by decide) ?_
          exact ih_19 _ (by omega) (trivial) (by show lv_has ls 5 [(0, .ref (b 0)), (1, .int (asB (fun h => woF (cbF kd ag pa hh hn td nh) (nOf kd ag pa td h) td) (f0F (cbF kd ag pa hh hn td nh) td) (i + 1))), (2, .int (nI (asL (fun h => woF (cbF kd ag pa hh hn td nh) (nOf kd ag pa td h) td) (f0F (cbF kd ag pa hh hn td nh) td) (i + 1)))), (3, .int (nI (i + 1)))]; rw [show ((asB (fun h => woF (cbF kd ag pa hh hn td nh) (nOf kd ag pa td h) td) (f0F (cbF kd ag pa hh hn td nh) td) (i + 1))) = (nI i) from (absurd c_49 (by omega)), show (asL (fun h => woF (cbF kd ag pa hh hn td nh) (nOf kd ag pa td h) td) (f0F (cbF kd ag pa hh hn td nh) td) (i + 1)) = asL (fun h => woF (cbF kd ag pa hh hn td nh) (nOf kd ag pa td h) td) (f0F (cbF kd ag pa hh hn td nh) td) i from (absurd c_49 (by omega))]; exact lv_sub hl [4, 2, 1, 0] rfl)
        · skip
          refine lv_iload hx hb dX3_askNow_52 (lv_at hl 1 rfl) ?_
          refine lv_goto (tgt := 58) hx hb dX3_askNow_54 (by decide) ?_
          refine lv_istore_n (lv' := [(2, .int (nI (woF (cbF kd ag pa hh hn td nh) (nOf kd ag pa td i) td))), (1, .int (nI i)), (4, .int (nI (woF (cbF kd ag pa hh hn td nh) (nOf kd ag pa td i) td))), (0, .ref (b 0)), (3, .int (nI i))]) hx hb dX3_askNow_58 rfl hl (by decide) rfl (fun ls hl => ?_)
          refine lv_iinc (v := (nI (i + 1))) (lv' := [(3, .int (nI (i + 1))), (2, .int (nI (woF (cbF kd ag pa hh hn td nh) (nOf kd ag pa td i) td))), (1, .int (nI i)), (4, .int (nI (woF (cbF kd ag pa hh hn td nh) (nOf kd ag pa td i) td))), (0, .ref (b 0))]) hx hb dX3_askNow_59 hl (k := 4) rfl (nI_i1 _) (by decide) rfl (fun ls hl => ?_)
          refine lv_goto (tgt := 19) hx hb dX3_askNow_62 (by decide) ?_
          exact ih_19 _ (by omega) (trivial) (by show lv_has ls 5 [(0, .ref (b 0)), (1, .int (asB (fun h => woF (cbF kd ag pa hh hn td nh) (nOf kd ag pa td h) td) (f0F (cbF kd ag pa hh hn td nh) td) (i + 1))), (2, .int (nI (asL (fun h => woF (cbF kd ag pa hh hn td nh) (nOf kd ag pa td h) td) (f0F (cbF kd ag pa hh hn td nh) td) (i + 1)))), (3, .int (nI (i + 1)))]; rw [show ((asB (fun h => woF (cbF kd ag pa hh hn td nh) (nOf kd ag pa td h) td) (f0F (cbF kd ag pa hh hn td nh) td) (i + 1))) = (nI i) from (asB_2 rfl c_37), show (asL (fun h => woF (cbF kd ag pa hh hn td nh) (nOf kd ag pa td h) td) (f0F (cbF kd ag pa hh hn td nh) td) (i + 1)) = woF (cbF kd ag pa hh hn td nh) (nOf kd ag pa td i) td from (asL_2 rfl c_37)]; exact lv_sub hl [4, 2, 1, 0] rfl)
abbrev rm_X3_ask : Room := { frames := 5, cells := 0, slots := 0, locals := 116 }
theorem vf_X3_askNow : vfacts RX3 yX3_askNow cX3_askNow 5 (some .int) 0 := ⟨⟨rfl, by decide +kernel, by decide +kernel, by decide +kernel⟩, gm_627, gm_731, gm_5, gm_628⟩
set_option maxRecDepth 100000 in
set_option maxHeartbeats 4000000 in
theorem c_X3_ask (l : Launch) (D : va_G) (cI cB : ClassId) (aS : Nat) (b : Nat → Nat) (st n td nd nh pl : Nat) (bs : Int32) (kd ag bo pa dm dn hh hn pg sv : Nat → Int32) (sd : Int64) (ik : Int32) (ks ktd knd knh : Nat) (kbs : Int32) (kag kbo kpa kdm kdn khh khn : Nat → Int32) (hf : Int64)  (hn6 : n ≤ 6) (qt : td ≤ 30) (qnh : nh ≤ 6) (qhh : hOK n hh nh) : Met l yX3_ask (mw yX3_ask cX3_ask 1 (some .int)) rm_X3_ask (RP D cI cB aS (MW cI cB b st n td nd nh pl bs kd ag bo pa dm dn hh hn pg sv sd ik ks ktd knd knh kbs kag kbo kpa kdm kdn khh khn hf) [.ref (b 0)]) (vp_Si (fun r => r = (if n = 0 then -103 else askF n kd ag pa (cbF kd ag pa hh hn td nh) td))) 0 0 (fun _ => False) := by
  refine met_of (by decide) (Nat.le_of_ble_eq_true rfl) ?_
  intro p e s m below meth c ls hx hb hr hml hown hg hlocks hin hK hP hl
  have hown : s.vm.findClass RX3 = some m.cls := hown
  have hl : lv_has ls 1 [(0, .ref (b 0))] := hl
  refine lv_aload_n hx hb dX3_ask_0 rfl (lv_at hl 0 rfl) ?_
  refine va_get (D := D) (ci := 3) (v := .int (nI n)) (C := RX3) (T := TX3) (N := 32) hx hb hg us_X3 hown hK.1 hP 0 MW_g0 rfl 1 (by decide) (hg _ gm_402) (fun _ h9 => h9) rfl dX3_ask_1 ?_
  refine nv_if_ne (tgt := 12) hx hb dX3_ask_4 (by omega) (by decide) (fun c_4 => ?_) (fun c_4 => ?_)
  · skip
    refine lv_aload_n hx hb dX3_ask_12 rfl (lv_at hl 0 rfl) ?_
    refine rdV (As := []) (rest := []) hx hb hml hown hg (c_X3_askNow l D cI cB aS _ st n td nd nh pl bs kd ag bo pa dm dn hh hn pg sv sd ik ks ktd knd knh kbs kag kbo kpa kdm kdn khh khn hf (by first | assumption | omega) (by first | assumption | omega) (by first | assumption | omega) (by first | assumption | omega)) gm_626 vf_X3_askNow ⟨Nat.le_of_ble_eq_true rfl, Nat.le_of_ble_eq_true rfl⟩ ⟨rfl, rfl⟩ ⟨Nat.zero_le _, Nat.zero_le _⟩ (RP.preV hK hP (q0 := 0) (ci := 3) MW_g0 rfl) rfl hl.1 rfl (Nat.le_of_ble_eq_true rfl) dX3_ask_13 ?_
    exact rr_i hx hb hr hlocks dX3_ask_16 ((if_neg c_4).symm)
  · skip
    refine lv_bipush (v := (-103)) hx hb dX3_ask_7 (by decide) ?_
    refine lv_goto (tgt := 16) hx hb dX3_ask_9 (by decide) ?_
    exact rr_i hx hb hr hlocks dX3_ask_16 ((if_pos c_4).symm)
abbrev rm_X3_unlike : Room := { frames := 3, cells := 0, slots := 0, locals := 68 }
set_option maxRecDepth 100000 in
set_option maxHeartbeats 4000000 in
theorem c_X3_unlike (l : Launch) (D : va_G) (cI cB : ClassId) (aS : Nat) (b : Nat → Nat) (st n td nd nh pl : Nat) (bs : Int32) (kd ag bo pa dm dn hh hn pg sv : Nat → Int32) (sd : Int64) (ik : Int32) (ks ktd knd knh : Nat) (kbs : Int32) (kag kbo kpa kdm kdn khh khn : Nat → Int32) (hf : Int64)  (hn6 : n ≤ 6) (qt : td ≤ 30) : Met l yX3_unlike (mw yX3_unlike cX3_unlike 3 (some .int)) rm_X3_unlike (RP D cI cB aS (MW cI cB b st n td nd nh pl bs kd ag bo pa dm dn hh hn pg sv sd ik ks ktd knd knh kbs kag kbo kpa kdm kdn khh khn hf) [.ref (b 0)]) (vp_Si (fun r => r = (nI (unF n (nmF kd ag))))) 0 0 (fun _ => False) := by
  refine met_of (by decide) (Nat.le_of_ble_eq_true rfl) ?_
  intro p e s m below meth c ls hx hb hr hml hown hg hlocks hin hK hP hl
  have hown : s.vm.findClass RX3 = some m.cls := hown
  have hl : lv_has ls 3 [(0, .ref (b 0))] := hl
  refine lv_iconst (v := (nI 0)) hx hb dX3_unlike_0 (by decide) ?_
  refine lv_istore_n (lv' := [(1, .int (nI 0)), (0, .ref (b 0))]) hx hb dX3_unlike_1 rfl hl (by decide) rfl (fun ls hl => ?_)
  refine lv_iconst (v := (nI 0)) hx hb dX3_unlike_2 (by decide) ?_
  refine lv_istore_n (lv' := [(2, .int (nI 0)), (1, .int (nI 0)), (0, .ref (b 0))]) hx hb dX3_unlike_3 rfl hl (by decide) rfl (fun ls hl => ?_)
  -- loop at 4
  refine loopR (nL := 3) (B := n) (I := fun i => True) (lv := fun i => [(0, .ref (b 0)), (1, .int (nI (cn (fun h => decide (hwF n (nmF kd ag) (nmF kd ag h) = nI h)) i))), (2, .int (nI i))]) 0 (Nat.zero_le _) (trivial) (by show lv_has ls 3 [(0, .ref (b 0)), (1, .int (nI (cn (fun h => decide (hwF n (nmF kd ag) (nmF kd ag h) = nI h)) 0))), (2, .int (nI 0))]; exact lv_sub hl [2, 1, 0] rfl) (fun i ls hj hI hl ih => ?_)
  have hl : lv_has ls 3 [(0, .ref (b 0)), (1, .int (nI (cn (fun h => decide (hwF n (nmF kd ag) (nmF kd ag h) = nI h)) i))), (2, .int (nI i))] := hl
  have ih_4 := ih
  refine lv_iload_n hx hb dX3_unlike_4 rfl (lv_at hl 2 rfl) ?_
  refine lv_aload_n hx hb dX3_unlike_5 rfl (lv_at hl 0 rfl) ?_
  refine va_get (D := D) (ci := 3) (v := .int (nI n)) (C := RX3) (T := TX3) (N := 32) hx hb hg us_X3 hown hK.1 hP 0 MW_g0 rfl 1 (by decide) (hg _ gm_402) (fun _ h9 => h9) rfl dX3_unlike_6 ?_
  refine nv_icmp_ge (tgt := 43) hx hb dX3_unlike_9 (by omega) (by omega) (by decide) (fun c_9 => ?_) (fun c_9 => ?_)
  · skip
    refine lv_iload_n hx hb dX3_unlike_43 rfl (lv_at hl 1 rfl) ?_
    exact rr_i hx hb hr hlocks dX3_unlike_44 (by rw [show i = n by omega]; rfl)
  · skip
    refine lv_iload_n hx hb dX3_unlike_12 rfl (lv_at hl 1 rfl) ?_
    refine lv_aload_n hx hb dX3_unlike_13 rfl (lv_at hl 0 rfl) ?_
    refine lv_aload_n hx hb dX3_unlike_14 rfl (lv_at hl 0 rfl) ?_
    refine lv_iload_n hx hb dX3_unlike_15 rfl (lv_at hl 2 rfl) ?_
    refine rdV (As := [.int (nI i)]) (rest := [.ref (b 0), .int (nI (cn (fun h => decide (hwF n (nmF kd ag) (nmF kd ag h) = nI h)) i))]) hx hb hml hown hg (c_X3_number l D cI cB aS _ st n td nd nh pl bs kd ag bo pa dm dn hh hn pg sv sd ik ks ktd knd knh kbs kag kbo kpa kdm kdn khh khn hf i (by first | assumption | omega)) gm_503 vf_X3_number ⟨Nat.le_of_ble_eq_true rfl, Nat.le_of_ble_eq_true rfl⟩ ⟨rfl, rfl⟩ ⟨Nat.zero_le _, Nat.zero_le _⟩ (RP.preV hK hP (q0 := 0) (ci := 3) MW_g0 rfl) rfl hl.1 rfl (Nat.le_of_ble_eq_true rfl) dX3_unlike_16 ?_
    refine lv_aload_n hx hb dX3_unlike_19 rfl (lv_at hl 0 rfl) ?_
    refine va_get (D := D) (ci := 3) (v := .int (nI td)) (C := RX3) (T := TX3) (N := 32) hx hb hg us_X3 hown hK.1 hP 0 MW_g0 rfl 6 (by decide) (hg _ gm_407) (fun _ h9 => h9) rfl dX3_unlike_20 ?_
    refine rdV (As := [.int (nmF kd ag i), .int (nI td)]) (rest := [.int (nI (cn (fun h => decide (hwF n (nmF kd ag) (nmF kd ag h) = nI h)) i))]) hx hb hml hown hg (c_X3_houseOf l D cI cB aS _ st n td nd nh pl bs kd ag bo pa dm dn hh hn pg sv sd ik ks ktd knd knh kbs kag kbo kpa kdm kdn khh khn hf (nmF kd ag i) td (by first | assumption | omega) (by first | assumption | omega) (by first | assumption | omega)) gm_512 vf_X3_houseOf ⟨Nat.le_of_ble_eq_true rfl, Nat.le_of_ble_eq_true rfl⟩ ⟨rfl, rfl⟩ ⟨Nat.zero_le _, Nat.zero_le _⟩ (RP.preV hK hP (q0 := 0) (ci := 3) MW_g0 rfl) rfl hl.1 rfl (Nat.le_of_ble_eq_true rfl) dX3_unlike_23 ?_
    rw [show ((hwF n (fun h => numOn kd ag pa td h td) (nmF kd ag i)) : Int32) = (hwF n (nmF kd ag) (nmF kd ag i)) from hwF_now]
    refine lv_iload_n hx hb dX3_unlike_26 rfl (lv_at hl 2 rfl) ?_
    refine lv_icmp_ne (tgt := 34) hx hb dX3_unlike_27 (by decide) (fun c_27 => ?_) (fun c_27 => ?_)
    · skip
      refine lv_iconst (v := (nI 0)) hx hb dX3_unlike_34 (by decide) ?_
      refine nv_iadd hx hb dX3_unlike_35 ?_
      refine lv_istore_n (lv' := [(1, .int (nI (cn (fun h => decide (hwF n (nmF kd ag) (nmF kd ag h) = nI h)) i + 0))), (0, .ref (b 0)), (2, .int (nI i))]) hx hb dX3_unlike_36 rfl hl (by decide) rfl (fun ls hl => ?_)
      refine lv_iinc (v := (nI (i + 1))) (lv' := [(2, .int (nI (i + 1))), (1, .int (nI (cn (fun h => decide (hwF n (nmF kd ag) (nmF kd ag h) = nI h)) i + 0))), (0, .ref (b 0))]) hx hb dX3_unlike_37 hl (k := 2) rfl (nI_i1 _) (by decide) rfl (fun ls hl => ?_)
      refine lv_goto (tgt := 4) hx hb dX3_unlike_40 (by decide) ?_
      exact ih_4 _ (by omega) (trivial) (by show lv_has ls 3 [(0, .ref (b 0)), (1, .int (nI (cn (fun h => decide (hwF n (nmF kd ag) (nmF kd ag h) = nI h)) (i + 1)))), (2, .int (nI (i + 1)))]; rw [show (cn (fun h => decide (hwF n (nmF kd ag) (nmF kd ag h) = nI h)) (i + 1)) = cn (fun h => decide (hwF n (nmF kd ag) (nmF kd ag h) = nI h)) i + 0 from cn_f (decide_eq_false c_27)]; exact lv_sub hl [2, 1, 0] rfl)
    · skip
      refine lv_iconst (v := (nI 1)) hx hb dX3_unlike_30 (by decide) ?_
      refine lv_goto (tgt := 35) hx hb dX3_unlike_31 (by decide) ?_
      refine nv_iadd hx hb dX3_unlike_35 ?_
      refine lv_istore_n (lv' := [(1, .int (nI (cn (fun h => decide (hwF n (nmF kd ag) (nmF kd ag h) = nI h)) i + 1))), (0, .ref (b 0)), (2, .int (nI i))]) hx hb dX3_unlike_36 rfl hl (by decide) rfl (fun ls hl => ?_)
      refine lv_iinc (v := (nI (i + 1))) (lv' := [(2, .int (nI (i + 1))), (1, .int (nI (cn (fun h => decide (hwF n (nmF kd ag) (nmF kd ag h) = nI h)) i + 1))), (0, .ref (b 0))]) hx hb dX3_unlike_37 hl (k := 2) rfl (nI_i1 _) (by decide) rfl (fun ls hl => ?_)
      refine lv_goto (tgt := 4) hx hb dX3_unlike_40 (by decide) ?_
      exact ih_4 _ (by omega) (trivial) (by show lv_has ls 3 [(0, .ref (b 0)), (1, .int (nI (cn (fun h => decide (hwF n (nmF kd ag) (nmF kd ag h) = nI h)) (i + 1)))), (2, .int (nI (i + 1)))]; rw [show (cn (fun h => decide (hwF n (nmF kd ag) (nmF kd ag h) = nI h)) (i + 1)) = cn (fun h => decide (hwF n (nmF kd ag) (nmF kd ag h) = nI h)) i + 1 from cn_t (decide_eq_true c_27)]; exact lv_sub hl [2, 1, 0] rfl)
abbrev rm_X3_owesAll : Room := { frames := 4, cells := 0, slots := 0, locals := 91 }
set_option maxRecDepth 100000 in
set_option maxHeartbeats 4000000 in
theorem c_X3_owesAll (l : Launch) (D : va_G) (cI cB : ClassId) (aS : Nat) (b : Nat → Nat) (st n td nd nh pl : Nat) (bs : Int32) (kd ag bo pa dm dn hh hn pg sv : Nat → Int32) (sd : Int64) (ik : Int32) (ks ktd knd knh : Nat) (kbs : Int32) (kag kbo kpa kdm kdn khh khn : Nat → Int32) (hf : Int64)  (hn6 : n ≤ 6) (qnd : nd ≤ 6) (qt : td ≤ 30) : Met l yX3_owesAll (mw yX3_owesAll cX3_owesAll 3 (some .int)) rm_X3_owesAll (RP D cI cB aS (MW cI cB b st n td nd nh pl bs kd ag bo pa dm dn hh hn pg sv sd ik ks ktd knd knh kbs kag kbo kpa kdm kdn khh khn hf) [.ref (b 0)]) (vp_Si (fun r => r = (owA n (nmF kd ag) dm dn nd))) 0 0 (fun _ => False) := by
  refine met_of (by decide) (Nat.le_of_ble_eq_true rfl) ?_
  intro p e s m below meth c ls hx hb hr hml hown hg hlocks hin hK hP hl
  have hown : s.vm.findClass RX3 = some m.cls := hown
  have hl : lv_has ls 3 [(0, .ref (b 0))] := hl
  refine lv_iconst (v := (nI 0)) hx hb dX3_owesAll_0 (by decide) ?_
  refine lv_istore_n (lv' := [(1, .int (nI 0)), (0, .ref (b 0))]) hx hb dX3_owesAll_1 rfl hl (by decide) rfl (fun ls hl => ?_)
  refine lv_iconst (v := (nI 0)) hx hb dX3_owesAll_2 (by decide) ?_
  refine lv_istore_n (lv' := [(2, .int (nI 0)), (1, .int (nI 0)), (0, .ref (b 0))]) hx hb dX3_owesAll_3 rfl hl (by decide) rfl (fun ls hl => ?_)
  -- loop at 4
  refine loopR (nL := 3) (B := n) (I := fun i => True) (lv := fun i => [(0, .ref (b 0)), (1, .int (sm (fun h => owF n (nmF kd ag) dm dn nd h) i)), (2, .int (nI i))]) 0 (Nat.zero_le _) (trivial) (by show lv_has ls 3 [(0, .ref (b 0)), (1, .int (sm (fun h => owF n (nmF kd ag) dm dn nd h) 0)), (2, .int (nI 0))]; exact lv_sub hl [2, 1, 0] rfl) (fun i ls hj hI hl ih => ?_)
  have hl : lv_has ls 3 [(0, .ref (b 0)), (1, .int (sm (fun h => owF n (nmF kd ag) dm dn nd h) i)), (2, .int (nI i))] := hl
  have ih_4 := ih
  refine lv_iload_n hx hb dX3_owesAll_4 rfl (lv_at hl 2 rfl) ?_
  refine lv_aload_n hx hb dX3_owesAll_5 rfl (lv_at hl 0 rfl) ?_
  refine va_get (D := D) (ci := 3) (v := .int (nI n)) (C := RX3) (T := TX3) (N := 32) hx hb hg us_X3 hown hK.1 hP 0 MW_g0 rfl 1 (by decide) (hg _ gm_402) (fun _ h9 => h9) rfl dX3_owesAll_6 ?_
  refine nv_icmp_ge (tgt := 26) hx hb dX3_owesAll_9 (by omega) (by omega) (by decide) (fun c_9 => ?_) (fun c_9 => ?_)
  · skip
    refine lv_iload_n hx hb dX3_owesAll_26 rfl (lv_at hl 1 rfl) ?_
    exact rr_i hx hb hr hlocks dX3_owesAll_27 (by rw [show i = n by omega]; rfl)
  · skip
    refine lv_iload_n hx hb dX3_owesAll_12 rfl (lv_at hl 1 rfl) ?_
    refine lv_aload_n hx hb dX3_owesAll_13 rfl (lv_at hl 0 rfl) ?_
    refine lv_iload_n hx hb dX3_owesAll_14 rfl (lv_at hl 2 rfl) ?_
    refine rdV (As := [.int (nI i)]) (rest := [.int (sm (fun h => owF n (nmF kd ag) dm dn nd h) i)]) hx hb hml hown hg (c_X3_owes l D cI cB aS _ st n td nd nh pl bs kd ag bo pa dm dn hh hn pg sv sd ik ks ktd knd knh kbs kag kbo kpa kdm kdn khh khn hf i (by first | assumption | omega) (by first | assumption | omega) (by first | assumption | omega) (by first | assumption | omega)) gm_509 vf_X3_owes ⟨Nat.le_of_ble_eq_true rfl, Nat.le_of_ble_eq_true rfl⟩ ⟨rfl, rfl⟩ ⟨Nat.zero_le _, Nat.zero_le _⟩ (RP.preV hK hP (q0 := 0) (ci := 3) MW_g0 rfl) rfl hl.1 rfl (Nat.le_of_ble_eq_true rfl) dX3_owesAll_15 ?_
    refine lv_iadd hx hb dX3_owesAll_18 ?_
    refine lv_istore_n (lv' := [(1, .int ((sm (fun h => owF n (nmF kd ag) dm dn nd h) i) + (owF n (nmF kd ag) dm dn nd i))), (0, .ref (b 0)), (2, .int (nI i))]) hx hb dX3_owesAll_19 rfl hl (by decide) rfl (fun ls hl => ?_)
    refine lv_iinc (v := (nI (i + 1))) (lv' := [(2, .int (nI (i + 1))), (1, .int ((sm (fun h => owF n (nmF kd ag) dm dn nd h) i) + (owF n (nmF kd ag) dm dn nd i))), (0, .ref (b 0))]) hx hb dX3_owesAll_20 hl (k := 2) rfl (nI_i1 _) (by decide) rfl (fun ls hl => ?_)
    refine lv_goto (tgt := 4) hx hb dX3_owesAll_23 (by decide) ?_
    exact ih_4 _ (by omega) (trivial) (by show lv_has ls 3 [(0, .ref (b 0)), (1, .int (sm (fun h => owF n (nmF kd ag) dm dn nd h) (i + 1))), (2, .int (nI (i + 1)))]; rw [show (sm (fun h => owF n (nmF kd ag) dm dn nd h) (i + 1)) = (sm (fun h => owF n (nmF kd ag) dm dn nd h) i) + (owF n (nmF kd ag) dm dn nd i) from rfl]; exact lv_sub hl [2, 1, 0] rfl)
abbrev rm_X3_howMany : Room := { frames := 5, cells := 0, slots := 0, locals := 113 }
theorem vf_X3_numbersAll : vfacts RX3 yX3_numbersAll cX3_numbersAll 3 (some .int) 0 := ⟨⟨rfl, by decide +kernel, by decide +kernel, by decide +kernel⟩, gm_591, gm_726, gm_5, gm_592⟩
theorem vf_X3_unlike : vfacts RX3 yX3_unlike cX3_unlike 3 (some .int) 0 := ⟨⟨rfl, by decide +kernel, by decide +kernel, by decide +kernel⟩, gm_662, gm_736, gm_5, gm_663⟩
theorem vf_X3_owesAll : vfacts RX3 yX3_owesAll cX3_owesAll 3 (some .int) 0 := ⟨⟨rfl, by decide +kernel, by decide +kernel, by decide +kernel⟩, gm_665, gm_737, gm_5, gm_666⟩
set_option maxRecDepth 100000 in
set_option maxHeartbeats 4000000 in
theorem c_X3_howMany (l : Launch) (D : va_G) (cI cB : ClassId) (aS : Nat) (b : Nat → Nat) (st n td nd nh pl : Nat) (bs : Int32) (kd ag bo pa dm dn hh hn pg sv : Nat → Int32) (sd : Int64) (ik : Int32) (ks ktd knd knh : Nat) (kbs : Int32) (kag kbo kpa kdm kdn khh khn : Nat → Int32) (hf : Int64) (w : Int32) (hn6 : n ≤ 6) (qnd : nd ≤ 6) (qt : td ≤ 30) : Met l yX3_howMany (mw yX3_howMany cX3_howMany 2 (some .int)) rm_X3_howMany (RP D cI cB aS (MW cI cB b st n td nd nh pl bs kd ag bo pa dm dn hh hn pg sv sd ik ks ktd knd knh kbs kag kbo kpa kdm kdn khh khn hf) [.ref (b 0), .int w]) (vp_Si (fun r => r = (cntF n td bs kd ag dm dn nd nh pl st w))) 0 0 (fun _ => False) := by
  refine met_of (by decide) (Nat.le_of_ble_eq_true rfl) ?_
  intro p e s m below meth c ls hx hb hr hml hown hg hlocks hin hK hP hl
  have hown : s.vm.findClass RX3 = some m.cls := hown
  have hl : lv_has ls 2 [(0, .ref (b 0)), (1, .int w)] := hl
  refine lv_iload_n hx hb dX3_howMany_0 rfl (lv_at hl 1 rfl) ?_
  by_cases c_1 : x_in w 9
  · obtain ⟨w_1, hw_1, ew_1⟩ := x_in_of c_1 (by decide)
    subst ew_1
    rcases (show w_1 = 0 ∨ w_1 = 1 ∨ w_1 = 2 ∨ w_1 = 3 ∨ w_1 = 4 ∨ w_1 = 5 ∨ w_1 = 6 ∨ w_1 = 7 ∨ w_1 = 8 ∨ w_1 = 9 by omega) with rfl | rfl | rfl | rfl | rfl | rfl | rfl | rfl | rfl | rfl
    · refine lv_tableIn (off := 55) (tgt := 56) hx hb dX3_howMany_1 (by decide) (by decide) rfl (by decide) ?_
      refine lv_aload_n hx hb dX3_howMany_56 rfl (lv_at hl 0 rfl) ?_
      refine va_get (D := D) (ci := 3) (v := .int (nI n)) (C := RX3) (T := TX3) (N := 32) hx hb hg us_X3 hown hK.1 hP 0 MW_g0 rfl 1 (by decide) (hg _ gm_402) (fun _ h9 => h9) rfl dX3_howMany_57 ?_
      exact rr_i hx hb hr hlocks dX3_howMany_60 ((cnt_ok (w := 0) (by decide)).symm)
    · refine lv_tableIn (off := 60) (tgt := 61) hx hb dX3_howMany_1 (by decide) (by decide) rfl (by decide) ?_
      refine lv_aload_n hx hb dX3_howMany_61 rfl (lv_at hl 0 rfl) ?_
      refine va_get (D := D) (ci := 3) (v := .int (nI td)) (C := RX3) (T := TX3) (N := 32) hx hb hg us_X3 hown hK.1 hP 0 MW_g0 rfl 6 (by decide) (hg _ gm_407) (fun _ h9 => h9) rfl dX3_howMany_62 ?_
      exact rr_i hx hb hr hlocks dX3_howMany_65 ((cnt_ok (w := 1) (by decide)).symm)
    · refine lv_tableIn (off := 65) (tgt := 66) hx hb dX3_howMany_1 (by decide) (by decide) rfl (by decide) ?_
      refine lv_aload_n hx hb dX3_howMany_66 rfl (lv_at hl 0 rfl) ?_
      refine va_get (D := D) (ci := 3) (v := .int bs) (C := RX3) (T := TX3) (N := 32) hx hb hg us_X3 hown hK.1 hP 0 MW_g0 rfl 7 (by decide) (hg _ gm_408) (fun _ h9 => h9) rfl dX3_howMany_67 ?_
      exact rr_i hx hb hr hlocks dX3_howMany_70 ((cnt_ok (w := 2) (by decide)).symm)
    · refine lv_tableIn (off := 70) (tgt := 71) hx hb dX3_howMany_1 (by decide) (by decide) rfl (by decide) ?_
      refine lv_aload_n hx hb dX3_howMany_71 rfl (lv_at hl 0 rfl) ?_
      refine rdV (As := []) (rest := []) hx hb hml hown hg (c_X3_numbersAll l D cI cB aS _ st n td nd nh pl bs kd ag bo pa dm dn hh hn pg sv sd ik ks ktd knd knh kbs kag kbo kpa kdm kdn khh khn hf (by first | assumption | omega)) gm_590 vf_X3_numbersAll ⟨Nat.le_of_ble_eq_true rfl, Nat.le_of_ble_eq_true rfl⟩ ⟨rfl, rfl⟩ ⟨Nat.zero_le _, Nat.zero_le _⟩ (RP.preV hK hP (q0 := 0) (ci := 3) MW_g0 rfl) rfl hl.1 rfl (Nat.le_of_ble_eq_true rfl) dX3_howMany_72 ?_
      exact rr_i hx hb hr hlocks dX3_howMany_75 ((cnt_ok (w := 3) (by decide)).symm)
    · refine lv_tableIn (off := 75) (tgt := 76) hx hb dX3_howMany_1 (by decide) (by decide) rfl (by decide) ?_
      refine lv_aload_n hx hb dX3_howMany_76 rfl (lv_at hl 0 rfl) ?_
      refine rdV (As := []) (rest := []) hx hb hml hown hg (c_X3_unlike l D cI cB aS _ st n td nd nh pl bs kd ag bo pa dm dn hh hn pg sv sd ik ks ktd knd knh kbs kag kbo kpa kdm kdn khh khn hf (by first | assumption | omega) (by first | assumption | omega)) gm_661 vf_X3_unlike ⟨Nat.le_of_ble_eq_true rfl, Nat.le_of_ble_eq_true rfl⟩ ⟨rfl, rfl⟩ ⟨Nat.zero_le _, Nat.zero_le _⟩ (RP.preV hK hP (q0 := 0) (ci := 3) MW_g0 rfl) rfl hl.1 rfl (Nat.le_of_ble_eq_true rfl) dX3_howMany_77 ?_
      exact rr_i hx hb hr hlocks dX3_howMany_80 ((cnt_ok (w := 4) (by decide)).symm)
    · refine lv_tableIn (off := 80) (tgt := 81) hx hb dX3_howMany_1 (by decide) (by decide) rfl (by decide) ?_
      refine lv_aload_n hx hb dX3_howMany_81 rfl (lv_at hl 0 rfl) ?_
      refine va_get (D := D) (ci := 3) (v := .int (nI nd)) (C := RX3) (T := TX3) (N := 32) hx hb hg us_X3 hown hK.1 hP 0 MW_g0 rfl 8 (by decide) (hg _ gm_409) (fun _ h9 => h9) rfl dX3_howMany_82 ?_
      exact rr_i hx hb hr hlocks dX3_howMany_85 ((cnt_ok (w := 5) (by decide)).symm)
    · refine lv_tableIn (off := 85) (tgt := 86) hx hb dX3_howMany_1 (by decide) (by decide) rfl (by decide) ?_
      refine lv_aload_n hx hb dX3_howMany_86 rfl (lv_at hl 0 rfl) ?_
      refine rdV (As := []) (rest := []) hx hb hml hown hg (c_X3_owesAll l D cI cB aS _ st n td nd nh pl bs kd ag bo pa dm dn hh hn pg sv sd ik ks ktd knd knh kbs kag kbo kpa kdm kdn khh khn hf (by first | assumption | omega) (by first | assumption | omega) (by first | assumption | omega)) gm_664 vf_X3_owesAll ⟨Nat.le_of_ble_eq_true rfl, Nat.le_of_ble_eq_true rfl⟩ ⟨rfl, rfl⟩ ⟨Nat.zero_le _, Nat.zero_le _⟩ (RP.preV hK hP (q0 := 0) (ci := 3) MW_g0 rfl) rfl hl.1 rfl (Nat.le_of_ble_eq_true rfl) dX3_howMany_87 ?_
      exact rr_i hx hb hr hlocks dX3_howMany_90 ((cnt_ok (w := 6) (by decide)).symm)
    · refine lv_tableIn (off := 90) (tgt := 91) hx hb dX3_howMany_1 (by decide) (by decide) rfl (by decide) ?_
      refine lv_aload_n hx hb dX3_howMany_91 rfl (lv_at hl 0 rfl) ?_
      refine va_get (D := D) (ci := 3) (v := .int (nI nh)) (C := RX3) (T := TX3) (N := 32) hx hb hg us_X3 hown hK.1 hP 0 MW_g0 rfl 11 (by decide) (hg _ gm_412) (fun _ h9 => h9) rfl dX3_howMany_92 ?_
      exact rr_i hx hb hr hlocks dX3_howMany_95 ((cnt_ok (w := 7) (by decide)).symm)
    · refine lv_tableIn (off := 95) (tgt := 96) hx hb dX3_howMany_1 (by decide) (by decide) rfl (by decide) ?_
      refine lv_aload_n hx hb dX3_howMany_96 rfl (lv_at hl 0 rfl) ?_
      refine va_get (D := D) (ci := 3) (v := .int (nI pl)) (C := RX3) (T := TX3) (N := 32) hx hb hg us_X3 hown hK.1 hP 0 MW_g0 rfl 14 (by decide) (hg _ gm_415) (fun _ h9 => h9) rfl dX3_howMany_97 ?_
      exact rr_i hx hb hr hlocks dX3_howMany_100 ((cnt_ok (w := 8) (by decide)).symm)
    · refine lv_tableIn (off := 100) (tgt := 101) hx hb dX3_howMany_1 (by decide) (by decide) rfl (by decide) ?_
      refine lv_aload_n hx hb dX3_howMany_101 rfl (lv_at hl 0 rfl) ?_
      refine va_get (D := D) (ci := 3) (v := .int (nI st)) (C := RX3) (T := TX3) (N := 32) hx hb hg us_X3 hown hK.1 hP 0 MW_g0 rfl 0 (by decide) (hg _ gm_401) (fun _ h9 => h9) rfl dX3_howMany_102 ?_
      exact rr_i hx hb hr hlocks dX3_howMany_105 ((cnt_ok (w := 9) (by decide)).symm)
  · refine lv_tableOut (tgt := 106) hx hb dX3_howMany_1 (x_out c_1 (by decide)) (by decide) ?_
    refine lv_bipush (v := (-102)) hx hb dX3_howMany_106 (by decide) ?_
    exact rr_i hx hb hr hlocks dX3_howMany_108 ((if_neg c_1).symm)
abbrev rm_X3_count : Room := { frames := 6, cells := 0, slots := 0, locals := 134 }
theorem vf_X3_howMany : vfacts RX3 yX3_howMany cX3_howMany 2 (some .int) 1 := ⟨⟨rfl, by decide +kernel, by decide +kernel, by decide +kernel⟩, gm_659, gm_735, gm_5, gm_660⟩
set_option maxRecDepth 100000 in
set_option maxHeartbeats 4000000 in
theorem c_X3_count (l : Launch) (D : va_G) (cI cB : ClassId) (aS : Nat) (b : Nat → Nat) (st n td nd nh pl : Nat) (bs : Int32) (kd ag bo pa dm dn hh hn pg sv : Nat → Int32) (sd : Int64) (ik : Int32) (ks ktd knd knh : Nat) (kbs : Int32) (kag kbo kpa kdm kdn khh khn : Nat → Int32) (hf : Int64) (w : Int32) (hn6 : n ≤ 6) (qnd : nd ≤ 6) (qt : td ≤ 30) : Met l yX3_count (mw yX3_count cX3_count 2 (some .int)) rm_X3_count (RP D cI cB aS (MW cI cB b st n td nd nh pl bs kd ag bo pa dm dn hh hn pg sv sd ik ks ktd knd knh kbs kag kbo kpa kdm kdn khh khn hf) [.ref (b 0), .int w]) (vp_Si (fun r => r = (cntF n td bs kd ag dm dn nd nh pl st w))) 0 0 (fun _ => False) := by
  refine met_of (by decide) (Nat.le_of_ble_eq_true rfl) ?_
  intro p e s m below meth c ls hx hb hr hml hown hg hlocks hin hK hP hl
  have hown : s.vm.findClass RX3 = some m.cls := hown
  have hl : lv_has ls 2 [(0, .ref (b 0)), (1, .int w)] := hl
  refine lv_aload_n hx hb dX3_count_0 rfl (lv_at hl 0 rfl) ?_
  refine lv_iload_n hx hb dX3_count_1 rfl (lv_at hl 1 rfl) ?_
  refine rdV (As := [.int w]) (rest := []) hx hb hml hown hg (c_X3_howMany l D cI cB aS _ st n td nd nh pl bs kd ag bo pa dm dn hh hn pg sv sd ik ks ktd knd knh kbs kag kbo kpa kdm kdn khh khn hf w (by first | assumption | omega) (by first | assumption | omega) (by first | assumption | omega)) gm_658 vf_X3_howMany ⟨Nat.le_of_ble_eq_true rfl, Nat.le_of_ble_eq_true rfl⟩ ⟨rfl, rfl⟩ ⟨Nat.zero_le _, Nat.zero_le _⟩ (RP.preV hK hP (q0 := 0) (ci := 3) MW_g0 rfl) rfl hl.1 rfl (Nat.le_of_ble_eq_true rfl) dX3_count_2 ?_
  exact rr_i hx hb hr hlocks dX3_count_5 rfl
abbrev rm_X3_kindBy : Room := { frames := 0, cells := 0, slots := 0, locals := 0 }
set_option maxRecDepth 100000 in
set_option maxHeartbeats 4000000 in
theorem c_X3_kindBy (l : Launch) (D : va_G) (cI cB : ClassId) (aS : Nat) (x : Nat) (qx : x ≤ 126) : Met l yX3_kindBy (mw yX3_kindBy cX3_kindBy 1 (some .int)) rm_X3_kindBy (RP D cI cB aS ([]) [.int (nI x)]) (vp_Si (fun r => r = (kindF x))) 0 0 (fun _ => False) := by
  refine met_of (by decide) (Nat.le_of_ble_eq_true rfl) ?_
  intro p e s m below meth c ls hx hb hr hml hown hg hlocks hin hK hP hl
  have hown : s.vm.findClass RX3 = some m.cls := hown
  have hl : lv_has ls 1 [(0, .int (nI x))] := hl
  refine lv_iload_n hx hb dX3_kindBy_0 rfl (lv_at hl 0 rfl) ?_
  by_cases c_1_98 : x = 98
  · refine lv_lookup (off := 59) (tgt := 60) hx hb dX3_kindBy_1 (by decide) (by rw [c_1_98]; decide) (by decide) ?_
    refine lv_iconst (v := (nI 4)) hx hb dX3_kindBy_60 (by decide) ?_
    exact rr_i hx hb hr hlocks dX3_kindBy_61 (by rw [c_1_98]; rfl)
  by_cases c_1_99 : x = 99
  · refine lv_lookup (off := 57) (tgt := 58) hx hb dX3_kindBy_1 (by decide) (by rw [c_1_99]; decide) (by decide) ?_
    refine lv_iconst (v := (nI 3)) hx hb dX3_kindBy_58 (by decide) ?_
    exact rr_i hx hb hr hlocks dX3_kindBy_59 (by rw [c_1_99]; rfl)
  by_cases c_1_104 : x = 104
  · refine lv_lookup (off := 51) (tgt := 52) hx hb dX3_kindBy_1 (by decide) (by rw [c_1_104]; decide) (by decide) ?_
    refine lv_iconst (v := (nI 0)) hx hb dX3_kindBy_52 (by decide) ?_
    exact rr_i hx hb hr hlocks dX3_kindBy_53 (by rw [c_1_104]; rfl)
  by_cases c_1_109 : x = 109
  · refine lv_lookup (off := 55) (tgt := 56) hx hb dX3_kindBy_1 (by decide) (by rw [c_1_109]; decide) (by decide) ?_
    refine lv_iconst (v := (nI 2)) hx hb dX3_kindBy_56 (by decide) ?_
    exact rr_i hx hb hr hlocks dX3_kindBy_57 (by rw [c_1_109]; rfl)
  by_cases c_1_116 : x = 116
  · refine lv_lookup (off := 53) (tgt := 54) hx hb dX3_kindBy_1 (by decide) (by rw [c_1_116]; decide) (by decide) ?_
    refine lv_iconst (v := (nI 1)) hx hb dX3_kindBy_54 (by decide) ?_
    exact rr_i hx hb hr hlocks dX3_kindBy_55 (by rw [c_1_116]; rfl)
  have q_1_98 : ¬ nI x = nI 98 := fun h => c_1_98 ((nI_eq (by omega) (by omega)).mp h)
  have q_1_99 : ¬ nI x = nI 99 := fun h => c_1_99 ((nI_eq (by omega) (by omega)).mp h)
  have q_1_104 : ¬ nI x = nI 104 := fun h => c_1_104 ((nI_eq (by omega) (by omega)).mp h)
  have q_1_109 : ¬ nI x = nI 109 := fun h => c_1_109 ((nI_eq (by omega) (by omega)).mp h)
  have q_1_116 : ¬ nI x = nI 116 := fun h => c_1_116 ((nI_eq (by omega) (by omega)).mp h)
  refine lv_lookup (off := 61) (tgt := 62) hx hb dX3_kindBy_1 (by decide) (by show Op.lookupswitch.offset [(98, 59), (99, 57), (104, 51), (109, 55), (116, 53)] 61 _ = 61; rw [lv_osw (a := 98) (q_1_98) (by decide), lv_osw (a := 99) (q_1_99) (by decide), lv_osw (a := 104) (q_1_104) (by decide), lv_osw (a := 109) (q_1_109) (by decide), lv_osw (a := 116) (q_1_116) (by decide)]; rfl) (by decide) ?_
  refine lv_iconst (v := (-1)) hx hb dX3_kindBy_62 (by decide) ?_
  exact rr_i hx hb hr hlocks dX3_kindBy_63 (by unfold kindF; rw [if_neg c_1_104, if_neg c_1_116, if_neg c_1_109, if_neg c_1_99, if_neg c_1_98])
abbrev rm_X3_isGood : Room := { frames := 1, cells := 0, slots := 0, locals := 22 }
theorem sf_X3_kindBy : sfacts RX3 yX3_kindBy cX3_kindBy 1 (some .int) 1 := ⟨⟨rfl, by decide +kernel, by decide +kernel, by decide +kernel⟩, gm_487, gm_5, gm_488⟩
set_option maxRecDepth 100000 in
set_option maxHeartbeats 4000000 in
theorem c_X3_isGood (l : Launch) (D : va_G) (cI cB : ClassId) (aS : Nat) (b : Nat → Nat) (st n td nd nh pl : Nat) (bs : Int32) (kd ag bo pa dm dn hh hn pg sv : Nat → Int32) (sd : Int64) (ik : Int32) (ks ktd knd knh : Nat) (kbs : Int32) (kag kbo kpa kdm kdn khh khn : Nat → Int32) (hf : Int64) (k : Nat) (qk : k < pl) (qpl : pl ≤ 19) (qpg : pgOK pg pl) : Met l yX3_isGood (mw yX3_isGood cX3_isGood 3 (some .boolean)) rm_X3_isGood (RP D cI cB aS (MW cI cB b st n td nd nh pl bs kd ag bo pa dm dn hh hn pg sv sd ik ks ktd knd knh kbs kag kbo kpa kdm kdn khh khn hf) [.ref (b 0), .int (nI k)]) (vp_Si (fun r => r = (bi (gdM pg k = true)))) 0 0 (fun _ => False) := by
  refine met_of (by decide) (Nat.le_of_ble_eq_true rfl) ?_
  intro p e s m below meth c ls hx hb hr hml hown hg hlocks hin hK hP hl
  have hown : s.vm.findClass RX3 = some m.cls := hown
  have hl : lv_has ls 3 [(0, .ref (b 0)), (1, .int (nI k))] := hl
  obtain ⟨w1, w2, w3⟩ := qpg k qk
  refine lv_aload_n hx hb dX3_isGood_0 rfl (lv_at hl 0 rfl) ?_
  refine va_get (D := D) (ci := 3) (v := .ref (b 9)) (C := RX3) (T := TX3) (N := 32) hx hb hg us_X3 hown hK.1 hP 0 MW_g0 rfl 15 (by decide) (hg _ gm_416) (fun _ h9 => h9) rfl dX3_isGood_1 ?_
  refine lv_iload_n hx hb dX3_isGood_4 rfl (lv_at hl 1 rfl) ?_
  refine nv_bald hx hb hK.1 hP 9 1 MW_g9 rfl (by omega) (by omega) dX3_isGood_5 ?_
  rw [show ((pg k) : Int32) = (nI ((pg k).toNatClampNeg)) from w1]
  refine lv_istore_n (lv' := [(2, .int (nI ((pg k).toNatClampNeg))), (0, .ref (b 0)), (1, .int (nI k))]) hx hb dX3_isGood_6 rfl hl (by decide) rfl (fun ls hl => ?_)
  refine lv_iload_n hx hb dX3_isGood_7 rfl (lv_at hl 2 rfl) ?_
  refine lv_iconst (v := (nI 3)) hx hb dX3_isGood_8 (by decide) ?_
  refine nv_irem hx hb dX3_isGood_9 (by omega) (by omega) (by omega) ?_
  by_cases c_10_0 : k % 3 = 0
  · refine lv_lookup (off := 26) (tgt := 36) hx hb dX3_isGood_10 (by decide) (by rw [c_10_0]; decide) (by decide) ?_
    refine lv_iload_n hx hb dX3_isGood_36 rfl (lv_at hl 0 rfl) ?_
    refine rdS (As := [.int (nI ((pg k).toNatClampNeg))]) (rest := []) hx hb hml hown hg (c_X3_kindBy l D cI cB aS ((pg k).toNatClampNeg) (by first | assumption | omega)) gm_486 sf_X3_kindBy ⟨Nat.le_of_ble_eq_true rfl, Nat.le_of_ble_eq_true rfl⟩ ⟨rfl, rfl⟩ ⟨Nat.zero_le _, Nat.zero_le _⟩ (RP.preS hK (fun k q h => by simp at h)) rfl hl.1 rfl (Nat.le_of_ble_eq_true rfl) dX3_isGood_37 ?_
    refine lv_iconst (v := (-1)) hx hb dX3_isGood_40 (by decide) ?_
    refine lv_icmp_eq (tgt := 48) hx hb dX3_isGood_41 (by decide) (fun c_41 => ?_) (fun c_41 => ?_)
    · skip
      refine lv_iconst (v := (nI 0)) hx hb dX3_isGood_48 (by decide) ?_
      exact rr_z hx hb hr hlocks dX3_isGood_49 bi_nar (ret_f (fun q => by rw [gdM_0 c_10_0, decide_eq_true c_41] at q; exact absurd q (by decide)))
    · skip
      refine lv_iconst (v := (nI 1)) hx hb dX3_isGood_44 (by decide) ?_
      refine lv_goto (tgt := 49) hx hb dX3_isGood_45 (by decide) ?_
      exact rr_z hx hb hr hlocks dX3_isGood_49 bi_nar (ret_t (by rw [gdM_0 c_10_0, decide_eq_false c_41]; rfl))
  by_cases c_10_1 : k % 3 = 1
  · refine lv_lookup (off := 40) (tgt := 50) hx hb dX3_isGood_10 (by decide) (by rw [c_10_1]; decide) (by decide) ?_
    refine lv_iload_n hx hb dX3_isGood_50 rfl (lv_at hl 0 rfl) ?_
    refine lv_bipush (v := (nI 48)) hx hb dX3_isGood_51 (by decide) ?_
    refine lv_isub hx hb dX3_isGood_53 ?_
    refine lv_iconst (v := (nI 0)) hx hb dX3_isGood_54 (by decide) ?_
    refine lv_bipush (v := (nI 9)) hx hb dX3_isGood_55 (by decide) ?_
    refine rdS (As := [.int ((nI ((pg k).toNatClampNeg)) - (nI 48)), .int (nI 0), .int (nI 9)]) (rest := []) hx hb hml hown hg (c_X3_within l D cI cB aS ((nI ((pg k).toNatClampNeg)) - (nI 48)) (nI 0) (nI 9)) gm_469 sf_X3_within ⟨Nat.le_of_ble_eq_true rfl, Nat.le_of_ble_eq_true rfl⟩ ⟨rfl, rfl⟩ ⟨Nat.zero_le _, Nat.zero_le _⟩ (RP.preS hK (fun k q h => by simp at h)) rfl hl.1 rfl (Nat.le_of_ble_eq_true rfl) dX3_isGood_57 ?_
    exact rr_z hx hb hr hlocks dX3_isGood_60 bi_nar (bi_c ((dg_iff w3).trans (by rw [gdM_1 c_10_1]; exact decide_eq_true_iff.symm)))
  have q_10_0 : ¬ nI (k % 3) = nI 0 := fun h => c_10_0 ((nI_eq (by omega) (by omega)).mp h)
  have q_10_1 : ¬ nI (k % 3) = nI 1 := fun h => c_10_1 ((nI_eq (by omega) (by omega)).mp h)
  refine lv_lookup (off := 51) (tgt := 61) hx hb dX3_isGood_10 (by decide) (by show Op.lookupswitch.offset [(0, 26), (1, 40)] 51 _ = 51; rw [lv_osw (a := 0) (q_10_0) (by decide), lv_osw (a := 1) (q_10_1) (by decide)]; rfl) (by decide) ?_
  refine lv_iload_n hx hb dX3_isGood_61 rfl (lv_at hl 0 rfl) ?_
  refine lv_bipush (v := (nI 44)) hx hb dX3_isGood_62 (by decide) ?_
  refine nv_icmp_ne (tgt := 77) hx hb dX3_isGood_64 (by omega) (by omega) (by decide) (fun c_64 => ?_) (fun c_64 => ?_)
  · skip
    refine lv_iconst (v := (nI 0)) hx hb dX3_isGood_77 (by decide) ?_
    exact rr_z hx hb hr hlocks dX3_isGood_78 bi_nar (ret_f (fun q => by rw [gdM_2 c_10_0 c_10_1] at q; exact c_64 (of_decide_eq_true q).1))
  · skip
    refine lv_iload_n hx hb dX3_isGood_67 rfl (lv_at hl 2 rfl) ?_
    refine lv_bipush (v := (nI 17)) hx hb dX3_isGood_68 (by decide) ?_
    refine nv_icmp_ge (tgt := 77) hx hb dX3_isGood_70 (by omega) (by omega) (by decide) (fun c_70 => ?_) (fun c_70 => ?_)
    · skip
      refine lv_iconst (v := (nI 0)) hx hb dX3_isGood_77 (by decide) ?_
      exact rr_z hx hb hr hlocks dX3_isGood_78 bi_nar (ret_f (fun q => by rw [gdM_2 c_10_0 c_10_1] at q; exact absurd (of_decide_eq_true q).2 (by omega)))
    · skip
      refine lv_iconst (v := (nI 1)) hx hb dX3_isGood_73 (by decide) ?_
      refine lv_goto (tgt := 78) hx hb dX3_isGood_74 (by decide) ?_
      exact rr_z hx hb hr hlocks dX3_isGood_78 bi_nar (ret_t (by rw [gdM_2 c_10_0 c_10_1]; exact decide_eq_true ⟨by omega, c_70⟩))
abbrev rm_X3_faultNow : Room := { frames := 2, cells := 0, slots := 0, locals := 44 }
theorem vf_X3_isGood : vfacts RX3 yX3_isGood cX3_isGood 3 (some .boolean) 1 := ⟨⟨rfl, by decide +kernel, by decide +kernel, by decide +kernel⟩, gm_484, gm_708, gm_5, gm_485⟩
set_option maxRecDepth 100000 in
set_option maxHeartbeats 4000000 in
theorem c_X3_faultNow (l : Launch) (D : va_G) (cI cB : ClassId) (aS : Nat) (b : Nat → Nat) (st n td nd nh pl : Nat) (bs : Int32) (kd ag bo pa dm dn hh hn pg sv : Nat → Int32) (sd : Int64) (ik : Int32) (ks ktd knd knh : Nat) (kbs : Int32) (kag kbo kpa kdm kdn khh khn : Nat → Int32) (hf : Int64)  (qpl : pl ≤ 19) (qpg : pgOK pg pl) : Met l yX3_faultNow (mw yX3_faultNow cX3_faultNow 2 (some .int)) rm_X3_faultNow (RP D cI cB aS (MW cI cB b st n td nd nh pl bs kd ag bo pa dm dn hh hn pg sv sd ik ks ktd knd knh kbs kag kbo kpa kdm kdn khh khn hf) [.ref (b 0)]) (vp_Si (fun r => r = (nI (ftF pg pl)))) 0 0 (fun _ => False) := by
  refine met_of (by decide) (Nat.le_of_ble_eq_true rfl) ?_
  intro p e s m below meth c ls hx hb hr hml hown hg hlocks hin hK hP hl
  have hown : s.vm.findClass RX3 = some m.cls := hown
  have hl : lv_has ls 2 [(0, .ref (b 0))] := hl
  refine lv_iconst (v := (nI 0)) hx hb dX3_faultNow_0 (by decide) ?_
  refine lv_istore_n (lv' := [(1, .int (nI 0)), (0, .ref (b 0))]) hx hb dX3_faultNow_1 rfl hl (by decide) rfl (fun ls hl => ?_)
  -- loop at 2
  refine loopR (nL := 2) (B := pl) (I := fun i => ∀ j, j < i → gdM pg j = true) (lv := fun i => [(0, .ref (b 0)), (1, .int (nI i))]) 0 (Nat.zero_le _) (fun j h => by omega) (lv_sub hl [1, 0] rfl) (fun i ls hj hI hl ih => ?_)
  have hl : lv_has ls 2 [(0, .ref (b 0)), (1, .int (nI i))] := hl
  have hI : ∀ j, j < i → gdM pg j = true := hI
  have ih_2 := ih
  refine lv_iload_n hx hb dX3_faultNow_2 rfl (lv_at hl 1 rfl) ?_
  refine lv_aload_n hx hb dX3_faultNow_3 rfl (lv_at hl 0 rfl) ?_
  refine va_get (D := D) (ci := 3) (v := .int (nI pl)) (C := RX3) (T := TX3) (N := 32) hx hb hg us_X3 hown hK.1 hP 0 MW_g0 rfl 14 (by decide) (hg _ gm_415) (fun _ h9 => h9) rfl dX3_faultNow_4 ?_
  refine nv_icmp_ge (tgt := 24) hx hb dX3_faultNow_7 (by omega) (by omega) (by decide) (fun c_7 => ?_) (fun c_7 => ?_)
  · skip
    refine lv_iload_n hx hb dX3_faultNow_24 rfl (lv_at hl 1 rfl) ?_
    exact rr_i hx hb hr hlocks dX3_faultNow_25 (by rw [← fz_gd, fz_all (fun j _ h => hI j (by omega)), Nat.zero_add, show i = pl by omega])
  · skip
    refine lv_aload_n hx hb dX3_faultNow_10 rfl (lv_at hl 0 rfl) ?_
    refine lv_iload_n hx hb dX3_faultNow_11 rfl (lv_at hl 1 rfl) ?_
    refine rdV (As := [.int (nI i)]) (rest := []) hx hb hml hown hg (c_X3_isGood l D cI cB aS _ st n td nd nh pl bs kd ag bo pa dm dn hh hn pg sv sd ik ks ktd knd knh kbs kag kbo kpa kdm kdn khh khn hf i (by first | assumption | omega) (by first | assumption | omega) (by first | assumption | omega)) gm_483 vf_X3_isGood ⟨Nat.le_of_ble_eq_true rfl, Nat.le_of_ble_eq_true rfl⟩ ⟨rfl, rfl⟩ ⟨Nat.zero_le _, Nat.zero_le _⟩ (RP.preV hK hP (q0 := 0) (ci := 3) MW_g0 rfl) rfl hl.1 rfl (Nat.le_of_ble_eq_true rfl) dX3_faultNow_12 ?_
    refine bv_if_eq (tgt := 24) hx hb dX3_faultNow_15 (by decide) (fun c_15 => ?_) (fun c_15 => ?_)
    · skip
      refine lv_iload_n hx hb dX3_faultNow_24 rfl (lv_at hl 1 rfl) ?_
      exact rr_i hx hb hr hlocks dX3_faultNow_25 (by rw [← fz_gd, fz_go (k := i) (by omega) (by omega) (fun j _ h => hI j h) (Bool.eq_false_iff.mpr c_15)])
    · skip
      refine lv_iinc (v := (nI (i + 1))) (lv' := [(1, .int (nI (i + 1))), (0, .ref (b 0))]) hx hb dX3_faultNow_18 hl (k := 1) rfl (nI_i1 _) (by decide) rfl (fun ls hl => ?_)
      refine lv_goto (tgt := 2) hx hb dX3_faultNow_21 (by decide) ?_
      exact ih_2 _ (by omega) (fun j h => by rcases Nat.lt_succ_iff_lt_or_eq.mp h with h | h; exact hI j h; rw [h]; exact c_15) (lv_sub hl [1, 0] rfl)
abbrev rm_X3_fault : Room := { frames := 3, cells := 0, slots := 0, locals := 65 }
theorem vf_X3_faultNow : vfacts RX3 yX3_faultNow cX3_faultNow 2 (some .int) 0 := ⟨⟨rfl, by decide +kernel, by decide +kernel, by decide +kernel⟩, gm_481, gm_707, gm_5, gm_482⟩
set_option maxRecDepth 100000 in
set_option maxHeartbeats 4000000 in
theorem c_X3_fault (l : Launch) (D : va_G) (cI cB : ClassId) (aS : Nat) (b : Nat → Nat) (st n td nd nh pl : Nat) (bs : Int32) (kd ag bo pa dm dn hh hn pg sv : Nat → Int32) (sd : Int64) (ik : Int32) (ks ktd knd knh : Nat) (kbs : Int32) (kag kbo kpa kdm kdn khh khn : Nat → Int32) (hf : Int64)  (qpl : pl ≤ 19) (qpg : pgOK pg pl) : Met l yX3_fault (mw yX3_fault cX3_fault 1 (some .int)) rm_X3_fault (RP D cI cB aS (MW cI cB b st n td nd nh pl bs kd ag bo pa dm dn hh hn pg sv sd ik ks ktd knd knh kbs kag kbo kpa kdm kdn khh khn hf) [.ref (b 0)]) (vp_Si (fun r => r = (nI (ftF pg pl)))) 0 0 (fun _ => False) := by
  refine met_of (by decide) (Nat.le_of_ble_eq_true rfl) ?_
  intro p e s m below meth c ls hx hb hr hml hown hg hlocks hin hK hP hl
  have hown : s.vm.findClass RX3 = some m.cls := hown
  have hl : lv_has ls 1 [(0, .ref (b 0))] := hl
  refine lv_aload_n hx hb dX3_fault_0 rfl (lv_at hl 0 rfl) ?_
  refine rdV (As := []) (rest := []) hx hb hml hown hg (c_X3_faultNow l D cI cB aS _ st n td nd nh pl bs kd ag bo pa dm dn hh hn pg sv sd ik ks ktd knd knh kbs kag kbo kpa kdm kdn khh khn hf (by first | assumption | omega) (by first | assumption | omega)) gm_480 vf_X3_faultNow ⟨Nat.le_of_ble_eq_true rfl, Nat.le_of_ble_eq_true rfl⟩ ⟨rfl, rfl⟩ ⟨Nat.zero_le _, Nat.zero_le _⟩ (RP.preV hK hP (q0 := 0) (ci := 3) MW_g0 rfl) rfl hl.1 rfl (Nat.le_of_ble_eq_true rfl) dX3_fault_1 ?_
  exact rr_i hx hb hr hlocks dX3_fault_4 rfl
abbrev rm_X3_size : Room := { frames := 0, cells := 0, slots := 0, locals := 0 }
set_option maxRecDepth 100000 in
set_option maxHeartbeats 4000000 in
theorem c_X3_size (l : Launch) (D : va_G) (cI cB : ClassId) (aS : Nat) (set : Nat) (q1 : set < 64) : Met l yX3_size (mw yX3_size cX3_size 3 (some .int)) rm_X3_size (RP D cI cB aS ([]) [.int (nI set)]) (vp_Si (fun r => r = (nI (popF set)))) 0 0 (fun _ => False) := by
  refine met_of (by decide) (Nat.le_of_ble_eq_true rfl) ?_
  intro p e s m below meth c ls hx hb hr hml hown hg hlocks hin hK hP hl
  have hown : s.vm.findClass RX3 = some m.cls := hown
  have hl : lv_has ls 3 [(0, .int (nI set))] := hl
  refine lv_iconst (v := (nI 0)) hx hb dX3_size_0 (by decide) ?_
  refine lv_istore_n (lv' := [(1, .int (nI 0)), (0, .int (nI set))]) hx hb dX3_size_1 rfl hl (by decide) rfl (fun ls hl => ?_)
  refine lv_iconst (v := (nI 0)) hx hb dX3_size_2 (by decide) ?_
  refine lv_istore_n (lv' := [(2, .int (nI 0)), (1, .int (nI 0)), (0, .int (nI set))]) hx hb dX3_size_3 rfl hl (by decide) rfl (fun ls hl => ?_)
  -- loop at 4
  refine loopR (nL := 3) (B := 6) (I := fun i => True) (lv := fun i => [(0, .int (nI set)), (1, .int (nI (cn (fun k => set.testBit k) i))), (2, .int (nI i))]) 0 (Nat.zero_le _) (trivial) (by show lv_has ls 3 [(0, .int (nI set)), (1, .int (nI (cn (fun k => set.testBit k) 0))), (2, .int (nI 0))]; exact lv_sub hl [2, 1, 0] rfl) (fun i ls hj hI hl ih => ?_)
  have hl : lv_has ls 3 [(0, .int (nI set)), (1, .int (nI (cn (fun k => set.testBit k) i))), (2, .int (nI i))] := hl
  have ih_4 := ih
  refine lv_iload_n hx hb dX3_size_4 rfl (lv_at hl 2 rfl) ?_
  refine lv_bipush (v := (nI 6)) hx hb dX3_size_5 (by decide) ?_
  refine nv_icmp_ge (tgt := 24) hx hb dX3_size_7 (by omega) (by omega) (by decide) (fun c_7 => ?_) (fun c_7 => ?_)
  · skip
    refine lv_iload_n hx hb dX3_size_24 rfl (lv_at hl 1 rfl) ?_
    exact rr_i hx hb hr hlocks dX3_size_25 (by rw [show i = 6 by omega]; rfl)
  · skip
    refine lv_iload_n hx hb dX3_size_10 rfl (lv_at hl 1 rfl) ?_
    refine lv_iload_n hx hb dX3_size_11 rfl (lv_at hl 0 rfl) ?_
    refine lv_iload_n hx hb dX3_size_12 rfl (lv_at hl 2 rfl) ?_
    refine lv_ishr hx hb dX3_size_13 ?_
    refine lv_iconst (v := (nI 1)) hx hb dX3_size_14 (by decide) ?_
    refine lv_iand hx hb dX3_size_15 ?_
    rw [show ((((nI set) >>> ((nI i) &&& 31)) &&& (nI 1)) : Int32) = (nI (if set.testBit i = true then 1 else 0)) from bit_n set q1 i (by omega)]
    refine nv_iadd hx hb dX3_size_16 ?_
    refine lv_istore_n (lv' := [(1, .int (nI (cn (fun k => set.testBit k) i + (if set.testBit i = true then 1 else 0)))), (0, .int (nI set)), (2, .int (nI i))]) hx hb dX3_size_17 rfl hl (by decide) rfl (fun ls hl => ?_)
    refine lv_iinc (v := (nI (i + 1))) (lv' := [(2, .int (nI (i + 1))), (1, .int (nI (cn (fun k => set.testBit k) i + (if set.testBit i = true then 1 else 0)))), (0, .int (nI set))]) hx hb dX3_size_18 hl (k := 2) rfl (nI_i1 _) (by decide) rfl (fun ls hl => ?_)
    refine lv_goto (tgt := 4) hx hb dX3_size_21 (by decide) ?_
    exact ih_4 _ (by omega) (trivial) (by show lv_has ls 3 [(0, .int (nI set)), (1, .int (nI (cn (fun k => set.testBit k) (i + 1)))), (2, .int (nI (i + 1)))]; rw [show (cn (fun k => set.testBit k) (i + 1)) = cn (fun k => set.testBit k) i + (if set.testBit i = true then 1 else 0) from rfl]; exact lv_sub hl [2, 1, 0] rfl)
