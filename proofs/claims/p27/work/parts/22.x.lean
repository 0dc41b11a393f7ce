abbrev rm_X2_isDay : Room := { frames := 0, cells := 0, slots := 0, locals := 0 }
set_option maxRecDepth 100000 in
set_option maxHeartbeats 4000000 in
theorem c_X2_isDay (l : Launch) (D : va_G) (cI cB : ClassId) (aS : Nat) (a : Nat → Nat) (pl n st : Nat) (ik : Int32) (td nd nh : Nat) (bs : Int32) (ktd knd knh : Nat) (kbs : Int32) (pg kd ag pa bo dm dn hh hn kag kpa kbo kdm kdn khh khn wb ps ty : Nat → Int32) (x : Int32) (hn6 : n ≤ 6) : Met l yX2_isDay (mw yX2_isDay cX2_isDay 2 (some .boolean)) rm_X2_isDay (RP D cI cB aS (XW cI a pl n st ik td nd nh bs ktd knd knh kbs pg kd ag pa bo dm dn hh hn kag kpa kbo kdm kdn khh khn wb ps ty) [.ref (a 0), .int x]) (vp_Si (fun r => r = (bi (dIn n td x)))) 0 0 (fun _ => False) := by
  refine met_of (by decide) (Nat.le_of_ble_eq_true rfl) ?_
  intro p e s m below meth c ls hx hb hr hml hown hg hlocks hin hK hP hl
  have hown : s.vm.findClass RX2 = some m.cls := hown
  have hl : lv_has ls 2 [(0, .ref (a 0)), (1, .int x)] := hl
  refine lv_aload_n hx hb dX2_isDay_0 rfl (lv_at hl 0 rfl) ?_
  refine va_get (D := D) (ci := 2) (v := .int (nI n)) (C := RX2) (T := TX2) (N := 11) hx hb hg us_X2 hown hK.1 hP 0 XW_g0 rfl 2 (by decide) (hg _ gm_68) (fun _ h9 => h9) rfl dX2_isDay_1 ?_
  refine nv_if_le (tgt := 26) hx hb dX2_isDay_4 (by omega) (by decide) (fun c_4 => ?_) (fun c_4 => ?_)
  · skip
    refine lv_iconst (v := (nI 0)) hx hb dX2_isDay_26 (by decide) ?_
    exact rr_z hx hb hr hlocks dX2_isDay_27 bi_nar (ret_f (fun h => absurd h.1 (by omega)))
  · skip
    refine lv_iload_n hx hb dX2_isDay_7 rfl (lv_at hl 1 rfl) ?_
    refine lv_if_lt (tgt := 26) hx hb dX2_isDay_8 (by decide) (fun c_8 => ?_) (fun c_8 => ?_)
    · skip
      refine lv_iconst (v := (nI 0)) hx hb dX2_isDay_26 (by decide) ?_
      exact rr_z hx hb hr hlocks dX2_isDay_27 bi_nar (ret_f (fun h => Int32.not_lt.mpr h.2.1 c_8))
    · skip
      refine lv_iload_n hx hb dX2_isDay_11 rfl (lv_at hl 1 rfl) ?_
      refine lv_aload_n hx hb dX2_isDay_12 rfl (lv_at hl 0 rfl) ?_
      refine va_get (D := D) (ci := 2) (v := .ref (a 5)) (C := RX2) (T := TX2) (N := 11) hx hb hg us_X2 hown hK.1 hP 0 XW_g0 rfl 5 (by decide) (hg _ gm_71) (fun _ h9 => h9) rfl dX2_isDay_13 ?_
      refine va_getN (D := D) (ci := 0) (v := .int (nI td)) (C := RX0) (T := TX0) (N := 11) hx hb hg us_X0 hown hK.1 hP 5 XW_g5 rfl 0 (by decide) (nl_112 hK) (fun _ h9 => h9) rfl dX2_isDay_16 ?_
      refine lv_icmp_gt (tgt := 26) hx hb dX2_isDay_19 (by decide) (fun c_19 => ?_) (fun c_19 => ?_)
      · skip
        refine lv_iconst (v := (nI 0)) hx hb dX2_isDay_26 (by decide) ?_
        exact rr_z hx hb hr hlocks dX2_isDay_27 bi_nar (ret_f (fun h => Int32.not_lt.mpr h.2.2 c_19))
      · skip
        refine lv_iconst (v := (nI 1)) hx hb dX2_isDay_22 (by decide) ?_
        refine lv_goto (tgt := 27) hx hb dX2_isDay_23 (by decide) ?_
        exact rr_z hx hb hr hlocks dX2_isDay_27 bi_nar (ret_t ⟨by omega, Int32.not_lt.mp c_8, Int32.not_lt.mp c_19⟩)
abbrev rm_X2_numberNow : Room := { frames := 2, cells := 0, slots := 0, locals := 43 }
set_option maxRecDepth 100000 in
set_option maxHeartbeats 4000000 in
theorem c_X2_numberNow (l : Launch) (D : va_G) (cI cB : ClassId) (aS : Nat) (a : Nat → Nat) (pl n st : Nat) (ik : Int32) (td nd nh : Nat) (bs : Int32) (ktd knd knh : Nat) (kbs : Int32) (pg kd ag pa bo dm dn hh hn kag kpa kbo kdm kdn khh khn wb ps ty : Nat → Int32) (h : Nat) (qh : h < n) (hn6 : n ≤ 6) : Met l yX2_numberNow (mw yX2_numberNow cX2_numberNow 2 (some .int)) rm_X2_numberNow (RP D cI cB aS (XW cI a pl n st ik td nd nh bs ktd knd knh kbs pg kd ag pa bo dm dn hh hn kag kpa kbo kdm kdn khh khn wb ps ty) [.ref (a 0), .int (nI h)]) (vp_Si (fun r => r = (nmF kd ag h))) 0 0 (fun _ => False) := by
  refine met_of (by decide) (Nat.le_of_ble_eq_true rfl) ?_
  intro p e s m below meth c ls hx hb hr hml hown hg hlocks hin hK hP hl
  have hown : s.vm.findClass RX2 = some m.cls := hown
  have hl : lv_has ls 2 [(0, .ref (a 0)), (1, .int (nI h))] := hl
  refine lv_aload_n hx hb dX2_numberNow_0 rfl (lv_at hl 0 rfl) ?_
  refine lv_aload_n hx hb dX2_numberNow_1 rfl (lv_at hl 0 rfl) ?_
  refine va_get (D := D) (ci := 2) (v := .ref (a 5)) (C := RX2) (T := TX2) (N := 11) hx hb hg us_X2 hown hK.1 hP 0 XW_g0 rfl 5 (by decide) (hg _ gm_71) (fun _ h9 => h9) rfl dX2_numberNow_2 ?_
  refine va_getN (D := D) (ci := 0) (v := .ref (a 6)) (C := RX0) (T := TX0) (N := 11) hx hb hg us_X0 hown hK.1 hP 5 XW_g5 rfl 4 (by decide) (nl_76 hK) (fun _ h9 => h9) rfl dX2_numberNow_5 ?_
  refine lv_iload_n hx hb dX2_numberNow_8 rfl (lv_at hl 1 rfl) ?_
  have hP_1 : va_P D vwCl [(a 0, .inr (2, [.ref (a 1), .int (nI pl), .int (nI n), .int (nI st), .ref (a 3), .ref (a 5), .ref (a 20), .int ik, .ref (a 35), .ref (a 37), .ref (a 39)])), (a 3, .inr (1, [.ref (a 4)])), (a 4, .inl (cI, 6, .inl kd)), (a 6, .inr (1, [.ref (a 13)])), (a 13, .inl (cI, 6, .inl ag))] _ := P_s5 hP XW_g0 XW_g3 XW_g4 XW_g6 XW_g13
  refine rdV (As := [.ref (a 6), .int (nI h)]) (rest := []) hx hb hml hown hg (c_X2_numberAt l D cI cB aS (a 0) (a 3) (a 4) (a 6) (a 13) n ([.ref (a 1), .int (nI pl), .int (nI n), .int (nI st), .ref (a 3), .ref (a 5), .ref (a 20), .int ik, .ref (a 35), .ref (a 37), .ref (a 39)]) kd ag h rfl rfl (by first | assumption | omega) (by first | assumption | omega)) gm_102 vf_X2_numberAt ⟨Nat.le_of_ble_eq_true rfl, Nat.le_of_ble_eq_true rfl⟩ ⟨rfl, rfl⟩ ⟨Nat.zero_le _, Nat.zero_le _⟩ (RP.preV hK hP_1 (q0 := 0) (ci := 2) rfl rfl) rfl hl.1 rfl (Nat.le_of_ble_eq_true rfl) dX2_numberNow_9 ?_
  exact rr_i hx hb hr hlocks dX2_numberNow_12 rfl
abbrev rm_X2_numberOn : Room := { frames := 1, cells := 0, slots := 0, locals := 21 }
theorem sf_X2_cellOf : sfacts RX2 yX2_cellOf cX2_cellOf 2 (some .int) 2 := ⟨⟨rfl, by decide +kernel, by decide +kernel, by decide +kernel⟩, gm_118, gm_2, gm_119⟩
set_option maxRecDepth 100000 in
set_option maxHeartbeats 4000000 in
theorem c_X2_numberOn (l : Launch) (D : va_G) (cI cB : ClassId) (aS : Nat) (a : Nat → Nat) (pl n st : Nat) (ik : Int32) (td nd nh : Nat) (bs : Int32) (ktd knd knh : Nat) (kbs : Int32) (pg kd ag pa bo dm dn hh hn kag kpa kbo kdm kdn khh khn wb ps ty : Nat → Int32) (h d : Nat) (qh : h < n) (hn6 : n ≤ 6) (qd : d ≤ td) (qt : td ≤ 30) : Met l yX2_numberOn (mw yX2_numberOn cX2_numberOn 4 (some .int)) rm_X2_numberOn (RP D cI cB aS (XW cI a pl n st ik td nd nh bs ktd knd knh kbs pg kd ag pa bo dm dn hh hn kag kpa kbo kdm kdn khh khn wb ps ty) [.ref (a 0), .int (nI h), .int (nI d)]) (vp_Si (fun r => r = (numOn kd ag pa td h d))) 0 0 (fun _ => False) := by
  refine met_of (by decide) (Nat.le_of_ble_eq_true rfl) ?_
  intro p e s m below meth c ls hx hb hr hml hown hg hlocks hin hK hP hl
  have hown : s.vm.findClass RX2 = some m.cls := hown
  have hl : lv_has ls 4 [(0, .ref (a 0)), (1, .int (nI h)), (2, .int (nI d))] := hl
  refine lv_iload_n hx hb dX2_numberOn_0 rfl (lv_at hl 2 rfl) ?_
  refine lv_aload_n hx hb dX2_numberOn_1 rfl (lv_at hl 0 rfl) ?_
  refine va_get (D := D) (ci := 2) (v := .ref (a 5)) (C := RX2) (T := TX2) (N := 11) hx hb hg us_X2 hown hK.1 hP 0 XW_g0 rfl 5 (by decide) (hg _ gm_71) (fun _ h9 => h9) rfl dX2_numberOn_2 ?_
  refine va_getN (D := D) (ci := 0) (v := .int (nI td)) (C := RX0) (T := TX0) (N := 11) hx hb hg us_X0 hown hK.1 hP 5 XW_g5 rfl 0 (by decide) (nl_112 hK) (fun _ h9 => h9) rfl dX2_numberOn_5 ?_
  refine nv_icmp_ne (tgt := 25) hx hb dX2_numberOn_8 (by omega) (by omega) (by decide) (fun c_8 => ?_) (fun c_8 => ?_)
  · skip
    refine lv_aload_n hx hb dX2_numberOn_25 rfl (lv_at hl 0 rfl) ?_
    refine va_get (D := D) (ci := 2) (v := .ref (a 5)) (C := RX2) (T := TX2) (N := 11) hx hb hg us_X2 hown hK.1 hP 0 XW_g0 rfl 5 (by decide) (hg _ gm_71) (fun _ h9 => h9) rfl dX2_numberOn_26 ?_
    refine va_getN (D := D) (ci := 0) (v := .ref (a 7)) (C := RX0) (T := TX0) (N := 11) hx hb hg us_X0 hown hK.1 hP 5 XW_g5 rfl 5 (by decide) (nl_115 hK) (fun _ h9 => h9) rfl dX2_numberOn_29 ?_
    refine lv_iload_n hx hb dX2_numberOn_32 rfl (lv_at hl 1 rfl) ?_
    refine lv_iload_n hx hb dX2_numberOn_33 rfl (lv_at hl 2 rfl) ?_
    refine rdS (As := [.int (nI h), .int (nI d)]) (rest := [.ref (a 7)]) hx hb hml hown hg (c_X2_cellOf l D cI cB aS h d) gm_117 sf_X2_cellOf ⟨Nat.le_of_ble_eq_true rfl, Nat.le_of_ble_eq_true rfl⟩ ⟨rfl, rfl⟩ ⟨Nat.zero_le _, Nat.zero_le _⟩ (RP.preS hK (fun k q h => by simp at h)) rfl hl.1 rfl (Nat.le_of_ble_eq_true rfl) dX2_numberOn_34 ?_
    have hP_1 : va_P D vwCl [(a 7, .inr (1, [.ref (a 14)])), (a 14, .inl (cI, 180, .inl pa))] _ := P_s2 hP XW_g7 XW_g14
    refine rdV (As := [.int (nI (d * 6 + h))]) (rest := []) hx hb hml hown hg (c_X1_at l D cI cB aS (a 7) (a 14) 180 pa (d * 6 + h) (by first | assumption | omega) (by first | assumption | omega)) gm_95 vf_X1_at ⟨Nat.le_of_ble_eq_true rfl, Nat.le_of_ble_eq_true rfl⟩ ⟨rfl, rfl⟩ ⟨Nat.zero_le _, Nat.zero_le _⟩ (RP.preV hK hP_1 (q0 := 0) (ci := 1) rfl rfl) rfl hl.1 rfl (Nat.le_of_ble_eq_true rfl) dX2_numberOn_37 ?_
    rw [show ((pa (d * 6 + h)) : Int32) = (pa (6 * d + h)) from by rw [Nat.mul_comm]]
    refine lv_istore_n (lv' := [(3, .int (pa (6 * d + h))), (0, .ref (a 0)), (1, .int (nI h)), (2, .int (nI d))]) hx hb dX2_numberOn_40 rfl hl (by decide) rfl (fun ls hl => ?_)
    refine lv_aload_n hx hb dX2_numberOn_41 rfl (lv_at hl 1 rfl) ?_
    refine va_get (D := D) (ci := 2) (v := .ref (a 3)) (C := RX2) (T := TX2) (N := 11) hx hb hg us_X2 hown hK.1 hP 0 XW_g0 rfl 4 (by decide) (hg _ gm_70) (fun _ h9 => h9) rfl dX2_numberOn_42 ?_
    refine lv_iload_n hx hb dX2_numberOn_45 rfl (lv_at hl 2 rfl) ?_
    have hP_2 : va_P D vwCl [(a 3, .inr (1, [.ref (a 4)])), (a 4, .inl (cI, 6, .inl kd))] _ := P_s2 hP XW_g3 XW_g4
    refine rdV (As := [.int (nI h)]) (rest := []) hx hb hml hown hg (c_X1_at l D cI cB aS (a 3) (a 4) 6 kd h (by first | assumption | omega) (by first | assumption | omega)) gm_95 vf_X1_at ⟨Nat.le_of_ble_eq_true rfl, Nat.le_of_ble_eq_true rfl⟩ ⟨rfl, rfl⟩ ⟨Nat.zero_le _, Nat.zero_le _⟩ (RP.preV hK hP_2 (q0 := 0) (ci := 1) rfl rfl) rfl hl.1 rfl (Nat.le_of_ble_eq_true rfl) dX2_numberOn_46 ?_
    refine lv_iload_n hx hb dX2_numberOn_49 rfl (lv_at hl 0 rfl) ?_
    refine rdS (As := [.int (kd h), .int (pa (6 * d + h))]) (rest := []) hx hb hml hown hg (c_X2_numberOf l D cI cB aS (kd h) (pa (6 * d + h))) gm_105 sf_X2_numberOf ⟨Nat.le_of_ble_eq_true rfl, Nat.le_of_ble_eq_true rfl⟩ ⟨rfl, rfl⟩ ⟨Nat.zero_le _, Nat.zero_le _⟩ (RP.preS hK (fun k q h => by simp at h)) rfl hl.1 rfl (Nat.le_of_ble_eq_true rfl) dX2_numberOn_50 ?_
    exact rr_i hx hb hr hlocks dX2_numberOn_53 (by unfold numOn ageOn; rw [if_neg c_8])
  · skip
    refine lv_aload_n hx hb dX2_numberOn_11 rfl (lv_at hl 0 rfl) ?_
    refine va_get (D := D) (ci := 2) (v := .ref (a 5)) (C := RX2) (T := TX2) (N := 11) hx hb hg us_X2 hown hK.1 hP 0 XW_g0 rfl 5 (by decide) (hg _ gm_71) (fun _ h9 => h9) rfl dX2_numberOn_12 ?_
    refine va_getN (D := D) (ci := 0) (v := .ref (a 6)) (C := RX0) (T := TX0) (N := 11) hx hb hg us_X0 hown hK.1 hP 5 XW_g5 rfl 4 (by decide) (nl_76 hK) (fun _ h9 => h9) rfl dX2_numberOn_15 ?_
    refine lv_iload_n hx hb dX2_numberOn_18 rfl (lv_at hl 1 rfl) ?_
    have hP_3 : va_P D vwCl [(a 6, .inr (1, [.ref (a 13)])), (a 13, .inl (cI, 6, .inl ag))] _ := P_s2 hP XW_g6 XW_g13
    refine rdV (As := [.int (nI h)]) (rest := []) hx hb hml hown hg (c_X1_at l D cI cB aS (a 6) (a 13) 6 ag h (by first | assumption | omega) (by first | assumption | omega)) gm_95 vf_X1_at ⟨Nat.le_of_ble_eq_true rfl, Nat.le_of_ble_eq_true rfl⟩ ⟨rfl, rfl⟩ ⟨Nat.zero_le _, Nat.zero_le _⟩ (RP.preV hK hP_3 (q0 := 0) (ci := 1) rfl rfl) rfl hl.1 rfl (Nat.le_of_ble_eq_true rfl) dX2_numberOn_19 ?_
    refine lv_goto (tgt := 40) hx hb dX2_numberOn_22 (by decide) ?_
    refine lv_istore_n (lv' := [(3, .int (ag h)), (0, .ref (a 0)), (1, .int (nI h)), (2, .int (nI d))]) hx hb dX2_numberOn_40 rfl hl (by decide) rfl (fun ls hl => ?_)
    refine lv_aload_n hx hb dX2_numberOn_41 rfl (lv_at hl 1 rfl) ?_
    refine va_get (D := D) (ci := 2) (v := .ref (a 3)) (C := RX2) (T := TX2) (N := 11) hx hb hg us_X2 hown hK.1 hP 0 XW_g0 rfl 4 (by decide) (hg _ gm_70) (fun _ h9 => h9) rfl dX2_numberOn_42 ?_
    refine lv_iload_n hx hb dX2_numberOn_45 rfl (lv_at hl 2 rfl) ?_
    have hP_4 : va_P D vwCl [(a 3, .inr (1, [.ref (a 4)])), (a 4, .inl (cI, 6, .inl kd))] _ := P_s2 hP XW_g3 XW_g4
    refine rdV (As := [.int (nI h)]) (rest := []) hx hb hml hown hg (c_X1_at l D cI cB aS (a 3) (a 4) 6 kd h (by first | assumption | omega) (by first | assumption | omega)) gm_95 vf_X1_at ⟨Nat.le_of_ble_eq_true rfl, Nat.le_of_ble_eq_true rfl⟩ ⟨rfl, rfl⟩ ⟨Nat.zero_le _, Nat.zero_le _⟩ (RP.preV hK hP_4 (q0 := 0) (ci := 1) rfl rfl) rfl hl.1 rfl (Nat.le_of_ble_eq_true rfl) dX2_numberOn_46 ?_
    refine lv_iload_n hx hb dX2_numberOn_49 rfl (lv_at hl 0 rfl) ?_
    refine rdS (As := [.int (kd h), .int (ag h)]) (rest := []) hx hb hml hown hg (c_X2_numberOf l D cI cB aS (kd h) (ag h)) gm_105 sf_X2_numberOf ⟨Nat.le_of_ble_eq_true rfl, Nat.le_of_ble_eq_true rfl⟩ ⟨rfl, rfl⟩ ⟨Nat.zero_le _, Nat.zero_le _⟩ (RP.preS hK (fun k q h => by simp at h)) rfl hl.1 rfl (Nat.le_of_ble_eq_true rfl) dX2_numberOn_50 ?_
    exact rr_i hx hb hr hlocks dX2_numberOn_53 (by unfold numOn ageOn; rw [if_pos c_8])
abbrev rm_X2_houseWith : Room := { frames := 2, cells := 0, slots := 0, locals := 44 }
theorem vf_X2_numberOn : vfacts RX2 yX2_numberOn cX2_numberOn 4 (some .int) 2 := ⟨⟨rfl, by decide +kernel, by decide +kernel, by decide +kernel⟩, gm_115, gm_361, gm_2, gm_116⟩
set_option maxRecDepth 100000 in
set_option maxHeartbeats 4000000 in
theorem c_X2_houseWith (l : Launch) (D : va_G) (cI cB : ClassId) (aS : Nat) (a : Nat → Nat) (pl n st : Nat) (ik : Int32) (td nd nh : Nat) (bs : Int32) (ktd knd knh : Nat) (kbs : Int32) (pg kd ag pa bo dm dn hh hn kag kpa kbo kdm kdn khh khn wb ps ty : Nat → Int32) (x : Int32) (d : Nat) (hn6 : n ≤ 6) (qd : d ≤ td) (qt : td ≤ 30) : Met l yX2_houseWith (mw yX2_houseWith cX2_houseWith 4 (some .int)) rm_X2_houseWith (RP D cI cB aS (XW cI a pl n st ik td nd nh bs ktd knd knh kbs pg kd ag pa bo dm dn hh hn kag kpa kbo kdm kdn khh khn wb ps ty) [.ref (a 0), .int x, .int (nI d)]) (vp_Si (fun r => r = (hwF n (fun h => numOn kd ag pa td h d) x))) 0 0 (fun _ => False) := by
  refine met_of (by decide) (Nat.le_of_ble_eq_true rfl) ?_
  intro p e s m below meth c ls hx hb hr hml hown hg hlocks hin hK hP hl
  have hown : s.vm.findClass RX2 = some m.cls := hown
  have hl : lv_has ls 4 [(0, .ref (a 0)), (1, .int x), (2, .int (nI d))] := hl
  refine lv_iconst (v := (nI 0)) hx hb dX2_houseWith_0 (by decide) ?_
  refine lv_istore_n (lv' := [(3, .int (nI 0)), (0, .ref (a 0)), (1, .int x), (2, .int (nI d))]) hx hb dX2_houseWith_1 rfl hl (by decide) rfl (fun ls hl => ?_)
  -- loop at 2
  refine loopR (nL := 4) (B := n) (I := fun i => ∀ k, k < i → hwP (fun h => numOn kd ag pa td h d) x k = false) (lv := fun i => [(0, .ref (a 0)), (1, .int x), (2, .int (nI d)), (3, .int (nI i))]) 0 (Nat.zero_le _) (fun k h => by omega) (lv_sub hl [1, 2, 3, 0] rfl) (fun i ls hj hI hl ih => ?_)
  have hl : lv_has ls 4 [(0, .ref (a 0)), (1, .int x), (2, .int (nI d)), (3, .int (nI i))] := hl
  have hI : ∀ k, k < i → hwP (fun h => numOn kd ag pa td h d) x k = false := hI
  have ih_2 := ih
  refine lv_iload_n hx hb dX2_houseWith_2 rfl (lv_at hl 3 rfl) ?_
  refine lv_aload_n hx hb dX2_houseWith_3 rfl (lv_at hl 0 rfl) ?_
  refine va_get (D := D) (ci := 2) (v := .int (nI n)) (C := RX2) (T := TX2) (N := 11) hx hb hg us_X2 hown hK.1 hP 0 XW_g0 rfl 2 (by decide) (hg _ gm_68) (fun _ h9 => h9) rfl dX2_houseWith_4 ?_
  refine nv_icmp_ge (tgt := 28) hx hb dX2_houseWith_7 (by omega) (by omega) (by decide) (fun c_7 => ?_) (fun c_7 => ?_)
  · skip
    refine lv_iconst (v := (-1)) hx hb dX2_houseWith_28 (by decide) ?_
    exact rr_i hx hb hr hlocks dX2_houseWith_29 ((ff_no (fun k h => hI k (by omega))).symm)
  · skip
    refine lv_aload_n hx hb dX2_houseWith_10 rfl (lv_at hl 0 rfl) ?_
    refine lv_iload_n hx hb dX2_houseWith_11 rfl (lv_at hl 3 rfl) ?_
    refine lv_iload_n hx hb dX2_houseWith_12 rfl (lv_at hl 2 rfl) ?_
    refine rdV (As := [.int (nI i), .int (nI d)]) (rest := []) hx hb hml hown hg (c_X2_numberOn l D cI cB aS _ pl n st ik td nd nh bs ktd knd knh kbs pg kd ag pa bo dm dn hh hn kag kpa kbo kdm kdn khh khn wb ps ty i d (by first | assumption | omega) (by first | assumption | omega) (by first | assumption | omega) (by first | assumption | omega)) gm_114 vf_X2_numberOn ⟨Nat.le_of_ble_eq_true rfl, Nat.le_of_ble_eq_true rfl⟩ ⟨rfl, rfl⟩ ⟨Nat.zero_le _, Nat.zero_le _⟩ (RP.preV hK hP (q0 := 0) (ci := 2) XW_g0 rfl) rfl hl.1 rfl (Nat.le_of_ble_eq_true rfl) dX2_houseWith_13 ?_
    refine lv_iload_n hx hb dX2_houseWith_16 rfl (lv_at hl 1 rfl) ?_
    refine lv_icmp_ne (tgt := 22) hx hb dX2_houseWith_17 (by decide) (fun c_17 => ?_) (fun c_17 => ?_)
    · skip
      refine lv_iinc (v := (nI (i + 1))) (lv' := [(3, .int (nI (i + 1))), (0, .ref (a 0)), (1, .int x), (2, .int (nI d))]) hx hb dX2_houseWith_22 hl (k := 3) rfl (nI_i1 _) (by decide) rfl (fun ls hl => ?_)
      refine lv_goto (tgt := 2) hx hb dX2_houseWith_25 (by decide) ?_
      exact ih_2 _ (by omega) ((fun k h => by rcases Nat.lt_succ_iff_lt_or_eq.mp h with h | h; exact hI k h; rw [h]; exact decide_eq_false c_17)) (lv_sub hl [1, 2, 3, 0] rfl)
    · skip
      refine lv_iload_n hx hb dX2_houseWith_20 rfl (lv_at hl 3 rfl) ?_
      exact rr_i hx hb hr hlocks dX2_houseWith_21 ((ff_at c_7 hI (decide_eq_true c_17)).symm)
