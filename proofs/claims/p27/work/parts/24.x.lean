abbrev rm_X2_about : Room := { frames := 4, cells := 0, slots := 0, locals := 90 }
set_option maxRecDepth 100000 in
set_option maxHeartbeats 4000000 in
theorem c_X2_about (l : Launch) (D : va_G) (cI cB : ClassId) (aS : Nat) (a : Nat → Nat) (pl n st : Nat) (ik : Int32) (td nd nh : Nat) (bs : Int32) (ktd knd knh : Nat) (kbs : Int32) (pg kd ag pa bo dm dn hh hn kag kpa kbo kdm kdn khh khn wb ps ty : Nat → Int32) (x w : Int32) (hn6 : n ≤ 6) (qnd : nd ≤ 6) (qt : td ≤ 30) : Met l yX2_about (mw yX2_about cX2_about 3 (some .int)) rm_X2_about (RP D cI cB aS (XW cI a pl n st ik td nd nh bs ktd knd knh kbs pg kd ag pa bo dm dn hh hn kag kpa kbo kdm kdn khh khn wb ps ty) [.ref (a 0), .int x, .int w]) (vp_Si (fun r => r = (abtF n kd ag bo dm dn nd x w))) 0 0 (fun _ => False) := by
  refine met_of (by decide) (Nat.le_of_ble_eq_true rfl) ?_
  intro p e s m below meth c ls hx hb hr hml hown hg hlocks hin hK hP hl
  have hown : s.vm.findClass RX2 = some m.cls := hown
  have hl : lv_has ls 3 [(0, .ref (a 0)), (1, .int x), (2, .int w)] := hl
  refine lv_aload_n hx hb dX2_about_0 rfl (lv_at hl 0 rfl) ?_
  refine lv_iload_n hx hb dX2_about_1 rfl (lv_at hl 1 rfl) ?_
  have hP_1 : va_P D vwCl [(a 0, .inr (2, [.ref (a 1), .int (nI pl), .int (nI n), .int (nI st), .ref (a 3), .ref (a 5), .ref (a 20), .int ik, .ref (a 35), .ref (a 37), .ref (a 39)]))] _ := P_s1 hP XW_g0
  refine rdV (As := [.int x]) (rest := []) hx hb hml hown hg (c_X2_isHouse l D cI cB aS (a 0) n ([.ref (a 1), .int (nI pl), .int (nI n), .int (nI st), .ref (a 3), .ref (a 5), .ref (a 20), .int ik, .ref (a 35), .ref (a 37), .ref (a 39)]) x rfl (by first | assumption | omega)) gm_92 vf_X2_isHouse ⟨Nat.le_of_ble_eq_true rfl, Nat.le_of_ble_eq_true rfl⟩ ⟨rfl, rfl⟩ ⟨Nat.zero_le _, Nat.zero_le _⟩ (RP.preV hK hP_1 (q0 := 0) (ci := 2) rfl rfl) rfl hl.1 rfl (Nat.le_of_ble_eq_true rfl) dX2_about_2 ?_
  refine bv_if_ne (tgt := 11) hx hb dX2_about_5 (by decide) (fun c_5 => ?_) (fun c_5 => ?_)
  · skip
    obtain ⟨j, qj, ex⟩ := hIn_of c_5 (by omega)
    subst ex
    refine lv_iload_n hx hb dX2_about_11 rfl (lv_at hl 2 rfl) ?_
    refine lv_if_lt (tgt := 20) hx hb dX2_about_12 (by decide) (fun c_12 => ?_) (fun c_12 => ?_)
    · skip
      refine lv_bipush (v := (-102)) hx hb dX2_about_20 (by decide) ?_
      exact rr_i hx hb hr hlocks dX2_about_22 ((abt_2 qj hn6 (fun q => Int32.not_lt.mpr q.1 c_12)).symm)
    · skip
      refine lv_iload_n hx hb dX2_about_15 rfl (lv_at hl 2 rfl) ?_
      refine lv_iconst (v := (nI 5)) hx hb dX2_about_16 (by decide) ?_
      refine lv_icmp_le (tgt := 23) hx hb dX2_about_17 (by decide) (fun c_17 => ?_) (fun c_17 => ?_)
      · skip
        have cw : x_in w 5 := ⟨Int32.not_lt.mp c_12, c_17⟩
        obtain ⟨k, qk, ek⟩ := x_in_of cw (by omega)
        subst ek
        refine lv_iload_n hx hb dX2_about_23 rfl (lv_at hl 2 rfl) ?_
        rcases (show k = 0 ∨ k = 1 ∨ k = 2 ∨ k = 3 ∨ k = 4 ∨ k = 5 by omega) with rfl | rfl | rfl | rfl | rfl | rfl
        · refine lv_tableIn (off := 36) (tgt := 60) hx hb dX2_about_24 (by decide) (by decide) rfl (by decide) ?_
          refine lv_aload_n hx hb dX2_about_60 rfl (lv_at hl 0 rfl) ?_
          refine va_get (D := D) (ci := 2) (v := .ref (a 3)) (C := RX2) (T := TX2) (N := 11) hx hb hg us_X2 hown hK.1 hP 0 XW_g0 rfl 4 (by decide) (hg _ gm_70) (fun _ h9 => h9) rfl dX2_about_61 ?_
          refine lv_iload_n hx hb dX2_about_64 rfl (lv_at hl 1 rfl) ?_
          have hP_2 : va_P D vwCl [(a 3, .inr (1, [.ref (a 4)])), (a 4, .inl (cI, 6, .inl kd))] _ := P_s2 hP XW_g3 XW_g4
          refine rdV (As := [.int (nI j)]) (rest := []) hx hb hml hown hg (c_X1_at l D cI cB aS (a 3) (a 4) 6 kd j (by first | assumption | omega) (by first | assumption | omega)) gm_95 vf_X1_at ⟨Nat.le_of_ble_eq_true rfl, Nat.le_of_ble_eq_true rfl⟩ ⟨rfl, rfl⟩ ⟨Nat.zero_le _, Nat.zero_le _⟩ (RP.preV hK hP_2 (q0 := 0) (ci := 1) rfl rfl) rfl hl.1 rfl (Nat.le_of_ble_eq_true rfl) dX2_about_65 ?_
          exact rr_i hx hb hr hlocks dX2_about_68 ((abt_ok (w := 0) qj hn6 (by decide)).symm)
        · refine lv_tableIn (off := 45) (tgt := 69) hx hb dX2_about_24 (by decide) (by decide) rfl (by decide) ?_
          refine lv_aload_n hx hb dX2_about_69 rfl (lv_at hl 0 rfl) ?_
          refine va_get (D := D) (ci := 2) (v := .ref (a 5)) (C := RX2) (T := TX2) (N := 11) hx hb hg us_X2 hown hK.1 hP 0 XW_g0 rfl 5 (by decide) (hg _ gm_71) (fun _ h9 => h9) rfl dX2_about_70 ?_
          refine va_getN (D := D) (ci := 0) (v := .ref (a 6)) (C := RX0) (T := TX0) (N := 11) hx hb hg us_X0 hown hK.1 hP 5 XW_g5 rfl 4 (by decide) (nl_76 hK) (fun _ h9 => h9) rfl dX2_about_73 ?_
          refine lv_iload_n hx hb dX2_about_76 rfl (lv_at hl 1 rfl) ?_
          have hP_3 : va_P D vwCl [(a 6, .inr (1, [.ref (a 13)])), (a 13, .inl (cI, 6, .inl ag))] _ := P_s2 hP XW_g6 XW_g13
          refine rdV (As := [.int (nI j)]) (rest := []) hx hb hml hown hg (c_X1_at l D cI cB aS (a 6) (a 13) 6 ag j (by first | assumption | omega) (by first | assumption | omega)) gm_95 vf_X1_at ⟨Nat.le_of_ble_eq_true rfl, Nat.le_of_ble_eq_true rfl⟩ ⟨rfl, rfl⟩ ⟨Nat.zero_le _, Nat.zero_le _⟩ (RP.preV hK hP_3 (q0 := 0) (ci := 1) rfl rfl) rfl hl.1 rfl (Nat.le_of_ble_eq_true rfl) dX2_about_77 ?_
          exact rr_i hx hb hr hlocks dX2_about_80 ((abt_ok (w := 1) qj hn6 (by decide)).symm)
        · refine lv_tableIn (off := 57) (tgt := 81) hx hb dX2_about_24 (by decide) (by decide) rfl (by decide) ?_
          refine lv_aload_n hx hb dX2_about_81 rfl (lv_at hl 0 rfl) ?_
          refine lv_iload_n hx hb dX2_about_82 rfl (lv_at hl 1 rfl) ?_
          refine rdV (As := [.int (nI j)]) (rest := []) hx hb hml hown hg (c_X2_numberNow l D cI cB aS _ pl n st ik td nd nh bs ktd knd knh kbs pg kd ag pa bo dm dn hh hn kag kpa kbo kdm kdn khh khn wb ps ty j (by first | assumption | omega) (by first | assumption | omega)) gm_99 vf_X2_numberNow ⟨Nat.le_of_ble_eq_true rfl, Nat.le_of_ble_eq_true rfl⟩ ⟨rfl, rfl⟩ ⟨Nat.zero_le _, Nat.zero_le _⟩ (RP.preV hK hP (q0 := 0) (ci := 2) XW_g0 rfl) rfl hl.1 rfl (Nat.le_of_ble_eq_true rfl) dX2_about_83 ?_
          exact rr_i hx hb hr hlocks dX2_about_86 ((abt_ok (w := 2) qj hn6 (by decide)).symm)
        · refine lv_tableIn (off := 63) (tgt := 87) hx hb dX2_about_24 (by decide) (by decide) rfl (by decide) ?_
          refine lv_aload_n hx hb dX2_about_87 rfl (lv_at hl 0 rfl) ?_
          refine va_get (D := D) (ci := 2) (v := .ref (a 5)) (C := RX2) (T := TX2) (N := 11) hx hb hg us_X2 hown hK.1 hP 0 XW_g0 rfl 5 (by decide) (hg _ gm_71) (fun _ h9 => h9) rfl dX2_about_88 ?_
          refine va_getN (D := D) (ci := 0) (v := .ref (a 8)) (C := RX0) (T := TX0) (N := 11) hx hb hg us_X0 hown hK.1 hP 5 XW_g5 rfl 6 (by decide) (nl_86 hK) (fun _ h9 => h9) rfl dX2_about_91 ?_
          refine lv_iload_n hx hb dX2_about_94 rfl (lv_at hl 1 rfl) ?_
          have hP_4 : va_P D vwCl [(a 8, .inr (1, [.ref (a 15)])), (a 15, .inl (cI, 6, .inl bo))] _ := P_s2 hP XW_g8 XW_g15
          refine rdV (As := [.int (nI j)]) (rest := []) hx hb hml hown hg (c_X1_at l D cI cB aS (a 8) (a 15) 6 bo j (by first | assumption | omega) (by first | assumption | omega)) gm_95 vf_X1_at ⟨Nat.le_of_ble_eq_true rfl, Nat.le_of_ble_eq_true rfl⟩ ⟨rfl, rfl⟩ ⟨Nat.zero_le _, Nat.zero_le _⟩ (RP.preV hK hP_4 (q0 := 0) (ci := 1) rfl rfl) rfl hl.1 rfl (Nat.le_of_ble_eq_true rfl) dX2_about_95 ?_
          exact rr_i hx hb hr hlocks dX2_about_98 ((abt_ok (w := 3) qj hn6 (by decide)).symm)
        · refine lv_tableIn (off := 75) (tgt := 99) hx hb dX2_about_24 (by decide) (by decide) rfl (by decide) ?_
          refine lv_aload_n hx hb dX2_about_99 rfl (lv_at hl 0 rfl) ?_
          refine lv_iload_n hx hb dX2_about_100 rfl (lv_at hl 1 rfl) ?_
          refine rdV (As := [.int (nI j)]) (rest := []) hx hb hml hown hg (c_X2_owedBy l D cI cB aS _ pl n st ik td nd nh bs ktd knd knh kbs pg kd ag pa bo dm dn hh hn kag kpa kbo kdm kdn khh khn wb ps ty j (by first | assumption | omega) (by first | assumption | omega) (by first | assumption | omega) (by first | assumption | omega)) gm_108 vf_X2_owedBy ⟨Nat.le_of_ble_eq_true rfl, Nat.le_of_ble_eq_true rfl⟩ ⟨rfl, rfl⟩ ⟨Nat.zero_le _, Nat.zero_le _⟩ (RP.preV hK hP (q0 := 0) (ci := 2) XW_g0 rfl) rfl hl.1 rfl (Nat.le_of_ble_eq_true rfl) dX2_about_101 ?_
          exact rr_i hx hb hr hlocks dX2_about_104 ((abt_ok (w := 4) qj hn6 (by decide)).symm)
        · refine lv_tableOut (tgt := 105) hx hb dX2_about_24 (by decide) (by decide) ?_
          refine lv_aload_n hx hb dX2_about_105 rfl (lv_at hl 0 rfl) ?_
          refine lv_aload_n hx hb dX2_about_106 rfl (lv_at hl 0 rfl) ?_
          refine va_get (D := D) (ci := 2) (v := .ref (a 5)) (C := RX2) (T := TX2) (N := 11) hx hb hg us_X2 hown hK.1 hP 0 XW_g0 rfl 5 (by decide) (hg _ gm_71) (fun _ h9 => h9) rfl dX2_about_107 ?_
          refine va_getN (D := D) (ci := 0) (v := .ref (a 6)) (C := RX0) (T := TX0) (N := 11) hx hb hg us_X0 hown hK.1 hP 5 XW_g5 rfl 4 (by decide) (nl_76 hK) (fun _ h9 => h9) rfl dX2_about_110 ?_
          refine lv_iload_n hx hb dX2_about_113 rfl (lv_at hl 1 rfl) ?_
          have hP_5 : va_P D vwCl [(a 0, .inr (2, [.ref (a 1), .int (nI pl), .int (nI n), .int (nI st), .ref (a 3), .ref (a 5), .ref (a 20), .int ik, .ref (a 35), .ref (a 37), .ref (a 39)])), (a 3, .inr (1, [.ref (a 4)])), (a 4, .inl (cI, 6, .inl kd)), (a 6, .inr (1, [.ref (a 13)])), (a 13, .inl (cI, 6, .inl ag))] _ := P_s5 hP XW_g0 XW_g3 XW_g4 XW_g6 XW_g13
          refine rdV (As := [.ref (a 6), .int (nI j)]) (rest := []) hx hb hml hown hg (c_X2_turnInWalk l D cI cB aS (a 0) (a 3) (a 4) (a 6) (a 13) n ([.ref (a 1), .int (nI pl), .int (nI n), .int (nI st), .ref (a 3), .ref (a 5), .ref (a 20), .int ik, .ref (a 35), .ref (a 37), .ref (a 39)]) kd ag j rfl rfl (by first | assumption | omega) (by first | assumption | omega)) gm_120 vf_X2_turnInWalk ⟨Nat.le_of_ble_eq_true rfl, Nat.le_of_ble_eq_true rfl⟩ ⟨rfl, rfl⟩ ⟨Nat.zero_le _, Nat.zero_le _⟩ (RP.preV hK hP_5 (q0 := 0) (ci := 2) rfl rfl) rfl hl.1 rfl (Nat.le_of_ble_eq_true rfl) dX2_about_114 ?_
          exact rr_i hx hb hr hlocks dX2_about_117 ((abt_ok (w := 5) qj hn6 (by decide)).symm)
      · skip
        refine lv_bipush (v := (-102)) hx hb dX2_about_20 (by decide) ?_
        exact rr_i hx hb hr hlocks dX2_about_22 ((abt_2 qj hn6 (fun q => c_17 q.2)).symm)
  · skip
    refine lv_bipush (v := (-101)) hx hb dX2_about_8 (by decide) ?_
    exact rr_i hx hb hr hlocks dX2_about_10 ((abt_1 c_5).symm)
abbrev rm_X2_as : Room := { frames := 1, cells := 0, slots := 0, locals := 21 }
set_option maxRecDepth 100000 in
set_option maxHeartbeats 4000000 in
theorem c_X2_as (l : Launch) (D : va_G) (cI cB : ClassId) (aS : Nat) (a : Nat → Nat) (pl n st : Nat) (ik : Int32) (td nd nh : Nat) (bs : Int32) (ktd knd knh : Nat) (kbs : Int32) (pg kd ag pa bo dm dn hh hn kag kpa kbo kdm kdn khh khn wb ps ty : Nat → Int32) (x k : Int32) (hn6 : n ≤ 6) : Met l yX2_as (mw yX2_as cX2_as 3 (some .int)) rm_X2_as (RP D cI cB aS (XW cI a pl n st ik td nd nh bs ktd knd knh kbs pg kd ag pa bo dm dn hh hn kag kpa kbo kdm kdn khh khn wb ps ty) [.ref (a 0), .int x, .int k]) (vp_Si (fun r => r = (asF n kd x k))) 0 0 (fun _ => False) := by
  refine met_of (by decide) (Nat.le_of_ble_eq_true rfl) ?_
  intro p e s m below meth c ls hx hb hr hml hown hg hlocks hin hK hP hl
  have hown : s.vm.findClass RX2 = some m.cls := hown
  have hl : lv_has ls 3 [(0, .ref (a 0)), (1, .int x), (2, .int k)] := hl
  refine lv_aload_n hx hb dX2_as_0 rfl (lv_at hl 0 rfl) ?_
  refine lv_iload_n hx hb dX2_as_1 rfl (lv_at hl 1 rfl) ?_
  have hP_1 : va_P D vwCl [(a 0, .inr (2, [.ref (a 1), .int (nI pl), .int (nI n), .int (nI st), .ref (a 3), .ref (a 5), .ref (a 20), .int ik, .ref (a 35), .ref (a 37), .ref (a 39)]))] _ := P_s1 hP XW_g0
  refine rdV (As := [.int x]) (rest := []) hx hb hml hown hg (c_X2_isHouse l D cI cB aS (a 0) n ([.ref (a 1), .int (nI pl), .int (nI n), .int (nI st), .ref (a 3), .ref (a 5), .ref (a 20), .int ik, .ref (a 35), .ref (a 37), .ref (a 39)]) x rfl (by first | assumption | omega)) gm_92 vf_X2_isHouse ⟨Nat.le_of_ble_eq_true rfl, Nat.le_of_ble_eq_true rfl⟩ ⟨rfl, rfl⟩ ⟨Nat.zero_le _, Nat.zero_le _⟩ (RP.preV hK hP_1 (q0 := 0) (ci := 2) rfl rfl) rfl hl.1 rfl (Nat.le_of_ble_eq_true rfl) dX2_as_2 ?_
  refine bv_if_ne (tgt := 11) hx hb dX2_as_5 (by decide) (fun c_5 => ?_) (fun c_5 => ?_)
  · skip
    obtain ⟨j, qj, ex⟩ := hIn_of c_5 (by omega)
    subst ex
    refine lv_iload_n hx hb dX2_as_11 rfl (lv_at hl 2 rfl) ?_
    refine lv_if_lt (tgt := 20) hx hb dX2_as_12 (by decide) (fun c_12 => ?_) (fun c_12 => ?_)
    · skip
      refine lv_bipush (v := (-102)) hx hb dX2_as_20 (by decide) ?_
      exact rr_i hx hb hr hlocks dX2_as_22 ((as_2 qj hn6 (fun q => Int32.not_lt.mpr q.1 c_12)).symm)
    · skip
      refine lv_iload_n hx hb dX2_as_15 rfl (lv_at hl 2 rfl) ?_
      refine lv_iconst (v := (nI 4)) hx hb dX2_as_16 (by decide) ?_
      refine lv_icmp_le (tgt := 23) hx hb dX2_as_17 (by decide) (fun c_17 => ?_) (fun c_17 => ?_)
      · skip
        refine lv_aload_n hx hb dX2_as_23 rfl (lv_at hl 0 rfl) ?_
        refine va_get (D := D) (ci := 2) (v := .ref (a 3)) (C := RX2) (T := TX2) (N := 11) hx hb hg us_X2 hown hK.1 hP 0 XW_g0 rfl 4 (by decide) (hg _ gm_70) (fun _ h9 => h9) rfl dX2_as_24 ?_
        refine lv_iload_n hx hb dX2_as_27 rfl (lv_at hl 1 rfl) ?_
        have hP_2 : va_P D vwCl [(a 3, .inr (1, [.ref (a 4)])), (a 4, .inl (cI, 6, .inl kd))] _ := P_s2 hP XW_g3 XW_g4
        refine rdV (As := [.int (nI j)]) (rest := []) hx hb hml hown hg (c_X1_at l D cI cB aS (a 3) (a 4) 6 kd j (by first | assumption | omega) (by first | assumption | omega)) gm_95 vf_X1_at ⟨Nat.le_of_ble_eq_true rfl, Nat.le_of_ble_eq_true rfl⟩ ⟨rfl, rfl⟩ ⟨Nat.zero_le _, Nat.zero_le _⟩ (RP.preV hK hP_2 (q0 := 0) (ci := 1) rfl rfl) rfl hl.1 rfl (Nat.le_of_ble_eq_true rfl) dX2_as_28 ?_
        refine lv_iload_n hx hb dX2_as_31 rfl (lv_at hl 2 rfl) ?_
        refine rdS (As := [.int (kd j), .int k]) (rest := []) hx hb hml hown hg (c_X2_isA l D cI cB aS (kd j) k) gm_127 sf_X2_isA ⟨Nat.le_of_ble_eq_true rfl, Nat.le_of_ble_eq_true rfl⟩ ⟨rfl, rfl⟩ ⟨Nat.zero_le _, Nat.zero_le _⟩ (RP.preS hK (fun k q h => by simp at h)) rfl hl.1 rfl (Nat.le_of_ble_eq_true rfl) dX2_as_32 ?_
        refine bv_if_eq (tgt := 42) hx hb dX2_as_35 (by decide) (fun c_35 => ?_) (fun c_35 => ?_)
        · skip
          refine lv_iconst (v := (-1)) hx hb dX2_as_42 (by decide) ?_
          exact rr_i hx hb hr hlocks dX2_as_43 (by rw [as_ok qj hn6 ⟨Int32.not_lt.mp c_12, c_17⟩, if_neg (fun q => c_35 (isA_s.mp q))])
        · skip
          refine lv_iload_n hx hb dX2_as_38 rfl (lv_at hl 1 rfl) ?_
          refine lv_goto (tgt := 43) hx hb dX2_as_39 (by decide) ?_
          exact rr_i hx hb hr hlocks dX2_as_43 (by rw [as_ok qj hn6 ⟨Int32.not_lt.mp c_12, c_17⟩, if_pos (isA_s.mpr c_35)])
      · skip
        refine lv_bipush (v := (-102)) hx hb dX2_as_20 (by decide) ?_
        exact rr_i hx hb hr hlocks dX2_as_22 ((as_2 qj hn6 (fun q => c_17 q.2)).symm)
  · skip
    refine lv_bipush (v := (-101)) hx hb dX2_as_8 (by decide) ?_
    exact rr_i hx hb hr hlocks dX2_as_10 ((as_1 c_5).symm)
abbrev rm_X2_then : Room := { frames := 2, cells := 0, slots := 0, locals := 44 }
theorem vf_X2_isDay : vfacts RX2 yX2_isDay cX2_isDay 2 (some .boolean) 1 := ⟨⟨rfl, by decide +kernel, by decide +kernel, by decide +kernel⟩, gm_165, gm_366, gm_2, gm_166⟩
set_option maxRecDepth 100000 in
set_option maxHeartbeats 4000000 in
theorem c_X2_then (l : Launch) (D : va_G) (cI cB : ClassId) (aS : Nat) (a : Nat → Nat) (pl n st : Nat) (ik : Int32) (td nd nh : Nat) (bs : Int32) (ktd knd knh : Nat) (kbs : Int32) (pg kd ag pa bo dm dn hh hn kag kpa kbo kdm kdn khh khn wb ps ty : Nat → Int32) (x d : Int32) (hn6 : n ≤ 6) (qt : td ≤ 30) : Met l yX2_then (mw yX2_then cX2_then 3 (some .int)) rm_X2_then (RP D cI cB aS (XW cI a pl n st ik td nd nh bs ktd knd knh kbs pg kd ag pa bo dm dn hh hn kag kpa kbo kdm kdn khh khn wb ps ty) [.ref (a 0), .int x, .int d]) (vp_Si (fun r => r = (thF n td kd ag pa x d))) 0 0 (fun _ => False) := by
  refine met_of (by decide) (Nat.le_of_ble_eq_true rfl) ?_
  intro p e s m below meth c ls hx hb hr hml hown hg hlocks hin hK hP hl
  have hown : s.vm.findClass RX2 = some m.cls := hown
  have hl : lv_has ls 3 [(0, .ref (a 0)), (1, .int x), (2, .int d)] := hl
  refine lv_aload_n hx hb dX2_then_0 rfl (lv_at hl 0 rfl) ?_
  refine lv_iload_n hx hb dX2_then_1 rfl (lv_at hl 1 rfl) ?_
  have hP_1 : va_P D vwCl [(a 0, .inr (2, [.ref (a 1), .int (nI pl), .int (nI n), .int (nI st), .ref (a 3), .ref (a 5), .ref (a 20), .int ik, .ref (a 35), .ref (a 37), .ref (a 39)]))] _ := P_s1 hP XW_g0
  refine rdV (As := [.int x]) (rest := []) hx hb hml hown hg (c_X2_isHouse l D cI cB aS (a 0) n ([.ref (a 1), .int (nI pl), .int (nI n), .int (nI st), .ref (a 3), .ref (a 5), .ref (a 20), .int ik, .ref (a 35), .ref (a 37), .ref (a 39)]) x rfl (by first | assumption | omega)) gm_92 vf_X2_isHouse ⟨Nat.le_of_ble_eq_true rfl, Nat.le_of_ble_eq_true rfl⟩ ⟨rfl, rfl⟩ ⟨Nat.zero_le _, Nat.zero_le _⟩ (RP.preV hK hP_1 (q0 := 0) (ci := 2) rfl rfl) rfl hl.1 rfl (Nat.le_of_ble_eq_true rfl) dX2_then_2 ?_
  refine bv_if_eq (tgt := 16) hx hb dX2_then_5 (by decide) (fun c_5 => ?_) (fun c_5 => ?_)
  · skip
    refine lv_bipush (v := (-101)) hx hb dX2_then_16 (by decide) ?_
    exact rr_i hx hb hr hlocks dX2_then_18 ((if_neg (fun q => c_5 q.1)).symm)
  · skip
    obtain ⟨j, qj, ex⟩ := hIn_of c_5 (by omega)
    subst ex
    refine lv_aload_n hx hb dX2_then_8 rfl (lv_at hl 0 rfl) ?_
    refine lv_iload_n hx hb dX2_then_9 rfl (lv_at hl 2 rfl) ?_
    refine rdV (As := [.int d]) (rest := []) hx hb hml hown hg (c_X2_isDay l D cI cB aS _ pl n st ik td nd nh bs ktd knd knh kbs pg kd ag pa bo dm dn hh hn kag kpa kbo kdm kdn khh khn wb ps ty d (by first | assumption | omega)) gm_164 vf_X2_isDay ⟨Nat.le_of_ble_eq_true rfl, Nat.le_of_ble_eq_true rfl⟩ ⟨rfl, rfl⟩ ⟨Nat.zero_le _, Nat.zero_le _⟩ (RP.preV hK hP (q0 := 0) (ci := 2) XW_g0 rfl) rfl hl.1 rfl (Nat.le_of_ble_eq_true rfl) dX2_then_10 ?_
    refine bv_if_ne (tgt := 19) hx hb dX2_then_13 (by decide) (fun c_13 => ?_) (fun c_13 => ?_)
    · skip
      obtain ⟨k, qk, ek⟩ := x_in_of ⟨(c_13).2.1, (c_13).2.2⟩ (by omega)
      subst ek
      refine lv_aload_n hx hb dX2_then_19 rfl (lv_at hl 0 rfl) ?_
      refine lv_iload_n hx hb dX2_then_20 rfl (lv_at hl 1 rfl) ?_
      refine lv_iload_n hx hb dX2_then_21 rfl (lv_at hl 2 rfl) ?_
      refine rdV (As := [.int (nI j), .int (nI k)]) (rest := []) hx hb hml hown hg (c_X2_numberOn l D cI cB aS _ pl n st ik td nd nh bs ktd knd knh kbs pg kd ag pa bo dm dn hh hn kag kpa kbo kdm kdn khh khn wb ps ty j k (by first | assumption | omega) (by first | assumption | omega) (by first | assumption | omega) (by first | assumption | omega)) gm_114 vf_X2_numberOn ⟨Nat.le_of_ble_eq_true rfl, Nat.le_of_ble_eq_true rfl⟩ ⟨rfl, rfl⟩ ⟨Nat.zero_le _, Nat.zero_le _⟩ (RP.preV hK hP (q0 := 0) (ci := 2) XW_g0 rfl) rfl hl.1 rfl (Nat.le_of_ble_eq_true rfl) dX2_then_22 ?_
      exact rr_i hx hb hr hlocks dX2_then_25 ((th_ok qj hn6 qk qt).symm)
    · skip
      refine lv_bipush (v := (-101)) hx hb dX2_then_16 (by decide) ?_
      exact rr_i hx hb hr hlocks dX2_then_18 ((if_neg (fun q => c_13 q.2)).symm)
abbrev rm_X2_goesTo : Room := { frames := 3, cells := 0, slots := 0, locals := 67 }
set_option maxRecDepth 100000 in
set_option maxHeartbeats 4000000 in
theorem c_X2_goesTo (l : Launch) (D : va_G) (cI cB : ClassId) (aS : Nat) (a : Nat → Nat) (pl n st : Nat) (ik : Int32) (td nd nh : Nat) (bs : Int32) (ktd knd knh : Nat) (kbs : Int32) (pg kd ag pa bo dm dn hh hn kag kpa kbo kdm kdn khh khn wb ps ty : Nat → Int32) (x d : Int32) (hn6 : n ≤ 6) (qt : td ≤ 30) : Met l yX2_goesTo (mw yX2_goesTo cX2_goesTo 3 (some .int)) rm_X2_goesTo (RP D cI cB aS (XW cI a pl n st ik td nd nh bs ktd knd knh kbs pg kd ag pa bo dm dn hh hn kag kpa kbo kdm kdn khh khn wb ps ty) [.ref (a 0), .int x, .int d]) (vp_Si (fun r => r = (goF n td kd ag pa x d))) 0 0 (fun _ => False) := by
  refine met_of (by decide) (Nat.le_of_ble_eq_true rfl) ?_
  intro p e s m below meth c ls hx hb hr hml hown hg hlocks hin hK hP hl
  have hown : s.vm.findClass RX2 = some m.cls := hown
  have hl : lv_has ls 3 [(0, .ref (a 0)), (1, .int x), (2, .int d)] := hl
  refine lv_aload_n hx hb dX2_goesTo_0 rfl (lv_at hl 0 rfl) ?_
  refine lv_iload_n hx hb dX2_goesTo_1 rfl (lv_at hl 2 rfl) ?_
  refine rdV (As := [.int d]) (rest := []) hx hb hml hown hg (c_X2_isDay l D cI cB aS _ pl n st ik td nd nh bs ktd knd knh kbs pg kd ag pa bo dm dn hh hn kag kpa kbo kdm kdn khh khn wb ps ty d (by first | assumption | omega)) gm_164 vf_X2_isDay ⟨Nat.le_of_ble_eq_true rfl, Nat.le_of_ble_eq_true rfl⟩ ⟨rfl, rfl⟩ ⟨Nat.zero_le _, Nat.zero_le _⟩ (RP.preV hK hP (q0 := 0) (ci := 2) XW_g0 rfl) rfl hl.1 rfl (Nat.le_of_ble_eq_true rfl) dX2_goesTo_2 ?_
  refine bv_if_ne (tgt := 11) hx hb dX2_goesTo_5 (by decide) (fun c_5 => ?_) (fun c_5 => ?_)
  · skip
    obtain ⟨k, qk, ek⟩ := x_in_of ⟨(c_5).2.1, (c_5).2.2⟩ (by omega)
    subst ek
    refine lv_aload_n hx hb dX2_goesTo_11 rfl (lv_at hl 0 rfl) ?_
    refine lv_iload_n hx hb dX2_goesTo_12 rfl (lv_at hl 1 rfl) ?_
    refine lv_iload_n hx hb dX2_goesTo_13 rfl (lv_at hl 2 rfl) ?_
    refine rdV (As := [.int x, .int (nI k)]) (rest := []) hx hb hml hown hg (c_X2_houseWith l D cI cB aS _ pl n st ik td nd nh bs ktd knd knh kbs pg kd ag pa bo dm dn hh hn kag kpa kbo kdm kdn khh khn wb ps ty x k (by first | assumption | omega) (by first | assumption | omega) (by first | assumption | omega)) gm_111 vf_X2_houseWith ⟨Nat.le_of_ble_eq_true rfl, Nat.le_of_ble_eq_true rfl⟩ ⟨rfl, rfl⟩ ⟨Nat.zero_le _, Nat.zero_le _⟩ (RP.preV hK hP (q0 := 0) (ci := 2) XW_g0 rfl) rfl hl.1 rfl (Nat.le_of_ble_eq_true rfl) dX2_goesTo_14 ?_
    exact rr_i hx hb hr hlocks dX2_goesTo_17 ((go_ok c_5.1 qk qt).symm)
  · skip
    refine lv_bipush (v := (-101)) hx hb dX2_goesTo_8 (by decide) ?_
    exact rr_i hx hb hr hlocks dX2_goesTo_10 ((if_neg c_5).symm)
abbrev rm_X2_when : Room := { frames := 1, cells := 0, slots := 0, locals := 21 }
set_option maxRecDepth 100000 in
set_option maxHeartbeats 4000000 in
theorem c_X2_when (l : Launch) (D : va_G) (cI cB : ClassId) (aS : Nat) (a : Nat → Nat) (pl n st : Nat) (ik : Int32) (td nd nh : Nat) (bs : Int32) (ktd knd knh : Nat) (kbs : Int32) (pg kd ag pa bo dm dn hh hn kag kpa kbo kdm kdn khh khn wb ps ty : Nat → Int32) (x y : Int32) (hn6 : n ≤ 6) : Met l yX2_when (mw yX2_when cX2_when 6 (some .int)) rm_X2_when (RP D cI cB aS (XW cI a pl n st ik td nd nh bs ktd knd knh kbs pg kd ag pa bo dm dn hh hn kag kpa kbo kdm kdn khh khn wb ps ty) [.ref (a 0), .int x, .int y]) (vp_Si (fun r => r = (whnF n kd ag x y))) 0 0 (fun _ => False) := by
  refine met_of (by decide) (Nat.le_of_ble_eq_true rfl) ?_
  intro p e s m below meth c ls hx hb hr hml hown hg hlocks hin hK hP hl
  have hown : s.vm.findClass RX2 = some m.cls := hown
  have hl : lv_has ls 6 [(0, .ref (a 0)), (1, .int x), (2, .int y)] := hl
  refine lv_aload_n hx hb dX2_when_0 rfl (lv_at hl 0 rfl) ?_
  refine lv_iload_n hx hb dX2_when_1 rfl (lv_at hl 1 rfl) ?_
  have hP_1 : va_P D vwCl [(a 0, .inr (2, [.ref (a 1), .int (nI pl), .int (nI n), .int (nI st), .ref (a 3), .ref (a 5), .ref (a 20), .int ik, .ref (a 35), .ref (a 37), .ref (a 39)]))] _ := P_s1 hP XW_g0
  refine rdV (As := [.int x]) (rest := []) hx hb hml hown hg (c_X2_isHouse l D cI cB aS (a 0) n ([.ref (a 1), .int (nI pl), .int (nI n), .int (nI st), .ref (a 3), .ref (a 5), .ref (a 20), .int ik, .ref (a 35), .ref (a 37), .ref (a 39)]) x rfl (by first | assumption | omega)) gm_92 vf_X2_isHouse ⟨Nat.le_of_ble_eq_true rfl, Nat.le_of_ble_eq_true rfl⟩ ⟨rfl, rfl⟩ ⟨Nat.zero_le _, Nat.zero_le _⟩ (RP.preV hK hP_1 (q0 := 0) (ci := 2) rfl rfl) rfl hl.1 rfl (Nat.le_of_ble_eq_true rfl) dX2_when_2 ?_
  refine bv_if_ne (tgt := 11) hx hb dX2_when_5 (by decide) (fun c_5 => ?_) (fun c_5 => ?_)
  · skip
    obtain ⟨j, qj, ex⟩ := hIn_of c_5 (by omega)
    subst ex
    refine lv_aload_n hx hb dX2_when_11 rfl (lv_at hl 0 rfl) ?_
    refine va_get (D := D) (ci := 2) (v := .ref (a 3)) (C := RX2) (T := TX2) (N := 11) hx hb hg us_X2 hown hK.1 hP 0 XW_g0 rfl 4 (by decide) (hg _ gm_70) (fun _ h9 => h9) rfl dX2_when_12 ?_
    refine lv_iload_n hx hb dX2_when_15 rfl (lv_at hl 1 rfl) ?_
    have hP_2 : va_P D vwCl [(a 3, .inr (1, [.ref (a 4)])), (a 4, .inl (cI, 6, .inl kd))] _ := P_s2 hP XW_g3 XW_g4
    refine rdV (As := [.int (nI j)]) (rest := []) hx hb hml hown hg (c_X1_at l D cI cB aS (a 3) (a 4) 6 kd j (by first | assumption | omega) (by first | assumption | omega)) gm_95 vf_X1_at ⟨Nat.le_of_ble_eq_true rfl, Nat.le_of_ble_eq_true rfl⟩ ⟨rfl, rfl⟩ ⟨Nat.zero_le _, Nat.zero_le _⟩ (RP.preV hK hP_2 (q0 := 0) (ci := 1) rfl rfl) rfl hl.1 rfl (Nat.le_of_ble_eq_true rfl) dX2_when_16 ?_
    refine lv_istore_n (lv' := [(3, .int (kd j)), (0, .ref (a 0)), (1, .int (nI j)), (2, .int y)]) hx hb dX2_when_19 rfl hl (by decide) rfl (fun ls hl => ?_)
    refine lv_aload_n hx hb dX2_when_20 rfl (lv_at hl 1 rfl) ?_
    refine va_get (D := D) (ci := 2) (v := .ref (a 5)) (C := RX2) (T := TX2) (N := 11) hx hb hg us_X2 hown hK.1 hP 0 XW_g0 rfl 5 (by decide) (hg _ gm_71) (fun _ h9 => h9) rfl dX2_when_21 ?_
    refine va_getN (D := D) (ci := 0) (v := .ref (a 6)) (C := RX0) (T := TX0) (N := 11) hx hb hg us_X0 hown hK.1 hP 5 XW_g5 rfl 4 (by decide) (nl_76 hK) (fun _ h9 => h9) rfl dX2_when_24 ?_
    refine lv_iload_n hx hb dX2_when_27 rfl (lv_at hl 2 rfl) ?_
    have hP_3 : va_P D vwCl [(a 6, .inr (1, [.ref (a 13)])), (a 13, .inl (cI, 6, .inl ag))] _ := P_s2 hP XW_g6 XW_g13
    refine rdV (As := [.int (nI j)]) (rest := []) hx hb hml hown hg (c_X1_at l D cI cB aS (a 6) (a 13) 6 ag j (by first | assumption | omega) (by first | assumption | omega)) gm_95 vf_X1_at ⟨Nat.le_of_ble_eq_true rfl, Nat.le_of_ble_eq_true rfl⟩ ⟨rfl, rfl⟩ ⟨Nat.zero_le _, Nat.zero_le _⟩ (RP.preV hK hP_3 (q0 := 0) (ci := 1) rfl rfl) rfl hl.1 rfl (Nat.le_of_ble_eq_true rfl) dX2_when_28 ?_
    refine lv_istore (lv' := [(4, .int (ag j)), (3, .int (kd j)), (0, .ref (a 0)), (1, .int (nI j)), (2, .int y)]) hx hb dX2_when_31 hl (by decide) rfl (fun ls hl => ?_)
    refine lv_iconst (v := (nI 0)) hx hb dX2_when_33 (by decide) ?_
    refine lv_istore (lv' := [(5, .int (nI 0)), (4, .int (ag j)), (3, .int (kd j)), (0, .ref (a 0)), (1, .int (nI j)), (2, .int y)]) hx hb dX2_when_34 hl (by decide) rfl (fun ls hl => ?_)
    -- loop at 36
    refine loopR (nL := 6) (B := 100) (I := fun i => ∀ k, k < i → decide (numF (kd j) (agF (kd j) (ag j) k) = y) = false) (lv := fun i => [(0, .ref (a 0)), (1, .int (nI j)), (2, .int y), (3, .int (kd j)), (4, .int (agF (kd j) (ag j) i)), (5, .int (nI i))]) 0 (Nat.zero_le _) (fun k h => by omega) (by show lv_has ls 6 [(0, .ref (a 0)), (1, .int (nI j)), (2, .int y), (3, .int (kd j)), (4, .int (agF (kd j) (ag j) 0)), (5, .int (nI 0))]; rw [show (agF (kd j) (ag j) 0) = ag j from agF_0]; exact lv_sub hl [3, 4, 5, 2, 1, 0] rfl) (fun i ls hj hI hl ih => ?_)
    have hl : lv_has ls 6 [(0, .ref (a 0)), (1, .int (nI j)), (2, .int y), (3, .int (kd j)), (4, .int (agF (kd j) (ag j) i)), (5, .int (nI i))] := hl
    have hI : ∀ k, k < i → decide (numF (kd j) (agF (kd j) (ag j) k) = y) = false := hI
    have ih_36 := ih
    refine lv_iload hx hb dX2_when_36 (lv_at hl 5 rfl) ?_
    refine lv_bipush (v := (nI 99)) hx hb dX2_when_38 (by decide) ?_
    refine nv_icmp_gt (tgt := 70) hx hb dX2_when_40 (by omega) (by omega) (by decide) (fun c_40 => ?_) (fun c_40 => ?_)
    · skip
      refine lv_iconst (v := (-1)) hx hb dX2_when_70 (by decide) ?_
      exact rr_i hx hb hr hlocks dX2_when_71 (by rw [whn_ok qj hn6]; exact (ff_no (fun k h => hI k (by omega))).symm)
    · skip
      refine lv_iload_n hx hb dX2_when_43 rfl (lv_at hl 3 rfl) ?_
      refine lv_iload hx hb dX2_when_44 (lv_at hl 4 rfl) ?_
      refine rdS (As := [.int (kd j), .int (agF (kd j) (ag j) i)]) (rest := []) hx hb hml hown hg (c_X2_numberOf l D cI cB aS (kd j) (agF (kd j) (ag j) i)) gm_105 sf_X2_numberOf ⟨Nat.le_of_ble_eq_true rfl, Nat.le_of_ble_eq_true rfl⟩ ⟨rfl, rfl⟩ ⟨Nat.zero_le _, Nat.zero_le _⟩ (RP.preS hK (fun k q h => by simp at h)) rfl hl.1 rfl (Nat.le_of_ble_eq_true rfl) dX2_when_46 ?_
      refine lv_iload_n hx hb dX2_when_49 rfl (lv_at hl 2 rfl) ?_
      refine lv_icmp_ne (tgt := 56) hx hb dX2_when_50 (by decide) (fun c_50 => ?_) (fun c_50 => ?_)
      · skip
        refine lv_iload_n hx hb dX2_when_56 rfl (lv_at hl 3 rfl) ?_
        refine lv_iload hx hb dX2_when_57 (lv_at hl 4 rfl) ?_
        refine rdS (As := [.int (kd j), .int (agF (kd j) (ag j) i)]) (rest := []) hx hb hml hown hg (c_X2_ageNextDay l D cI cB aS (kd j) (agF (kd j) (ag j) i)) gm_157 sf_X2_ageNextDay ⟨Nat.le_of_ble_eq_true rfl, Nat.le_of_ble_eq_true rfl⟩ ⟨rfl, rfl⟩ ⟨Nat.zero_le _, Nat.zero_le _⟩ (RP.preS hK (fun k q h => by simp at h)) rfl hl.1 rfl (Nat.le_of_ble_eq_true rfl) dX2_when_59 ?_
        refine lv_istore (lv' := [(4, .int (nxF (kd j) (agF (kd j) (ag j) i))), (0, .ref (a 0)), (1, .int (nI j)), (2, .int y), (3, .int (kd j)), (5, .int (nI i))]) hx hb dX2_when_62 hl (by decide) rfl (fun ls hl => ?_)
        refine lv_iinc (v := (nI (i + 1))) (lv' := [(5, .int (nI (i + 1))), (4, .int (nxF (kd j) (agF (kd j) (ag j) i))), (0, .ref (a 0)), (1, .int (nI j)), (2, .int y), (3, .int (kd j))]) hx hb dX2_when_64 hl (k := 5) rfl (nI_i1 _) (by decide) rfl (fun ls hl => ?_)
        refine lv_goto (tgt := 36) hx hb dX2_when_67 (by decide) ?_
        exact ih_36 _ (by omega) ((fun k h => by rcases Nat.lt_succ_iff_lt_or_eq.mp h with h | h; exact hI k h; rw [h]; exact decide_eq_false c_50)) (by show lv_has ls 6 [(0, .ref (a 0)), (1, .int (nI j)), (2, .int y), (3, .int (kd j)), (4, .int (agF (kd j) (ag j) (i + 1))), (5, .int (nI (i + 1)))]; rw [show (agF (kd j) (ag j) (i + 1)) = nxF (kd j) (agF (kd j) (ag j) i) from agF_s]; exact lv_sub hl [2, 3, 4, 5, 1, 0] rfl)
      · skip
        refine lv_iload hx hb dX2_when_53 (lv_at hl 5 rfl) ?_
        exact rr_i hx hb hr hlocks dX2_when_55 (by rw [whn_ok qj hn6]; exact (ff_at (by omega) hI (decide_eq_true c_50)).symm)
  · skip
    refine lv_bipush (v := (-101)) hx hb dX2_when_8 (by decide) ?_
    exact rr_i hx hb hr hlocks dX2_when_10 ((if_neg c_5).symm)
abbrev rm_X2_count : Room := { frames := 5, cells := 0, slots := 0, locals := 112 }
theorem vf_X2_allNumbers : vfacts RX2 yX2_allNumbers cX2_allNumbers 4 (some .int) 1 := ⟨⟨rfl, by decide +kernel, by decide +kernel, by decide +kernel⟩, gm_218, gm_371, gm_2, gm_219⟩
theorem vf_X2_unlikeNumbers : vfacts RX2 yX2_unlikeNumbers cX2_unlikeNumbers 3 (some .int) 0 := ⟨⟨rfl, by decide +kernel, by decide +kernel, by decide +kernel⟩, gm_225, gm_372, gm_2, gm_226⟩
theorem vf_X2_owedByAll : vfacts RX2 yX2_owedByAll cX2_owedByAll 3 (some .int) 0 := ⟨⟨rfl, by decide +kernel, by decide +kernel, by decide +kernel⟩, gm_228, gm_373, gm_2, gm_229⟩
set_option maxRecDepth 100000 in
set_option maxHeartbeats 4000000 in
theorem c_X2_count (l : Launch) (D : va_G) (cI cB : ClassId) (aS : Nat) (a : Nat → Nat) (pl n st : Nat) (ik : Int32) (td nd nh : Nat) (bs : Int32) (ktd knd knh : Nat) (kbs : Int32) (pg kd ag pa bo dm dn hh hn kag kpa kbo kdm kdn khh khn wb ps ty : Nat → Int32) (w : Int32) (hn6 : n ≤ 6) (qnd : nd ≤ 6) (qt : td ≤ 30) : Met l yX2_count (mw yX2_count cX2_count 2 (some .int)) rm_X2_count (RP D cI cB aS (XW cI a pl n st ik td nd nh bs ktd knd knh kbs pg kd ag pa bo dm dn hh hn kag kpa kbo kdm kdn khh khn wb ps ty) [.ref (a 0), .int w]) (vp_Si (fun r => r = (cntF n td bs kd ag dm dn nd nh pl st w))) 0 0 (fun _ => False) := by
  refine met_of (by decide) (Nat.le_of_ble_eq_true rfl) ?_
  intro p e s m below meth c ls hx hb hr hml hown hg hlocks hin hK hP hl
  have hown : s.vm.findClass RX2 = some m.cls := hown
  have hl : lv_has ls 2 [(0, .ref (a 0)), (1, .int w)] := hl
  refine lv_iload_n hx hb dX2_count_0 rfl (lv_at hl 1 rfl) ?_
  by_cases c_1 : x_in w 9
  · obtain ⟨w_1, hw_1, ew_1⟩ := x_in_of c_1 (by decide)
    subst ew_1
    rcases (show w_1 = 0 ∨ w_1 = 1 ∨ w_1 = 2 ∨ w_1 = 3 ∨ w_1 = 4 ∨ w_1 = 5 ∨ w_1 = 6 ∨ w_1 = 7 ∨ w_1 = 8 ∨ w_1 = 9 by omega) with rfl | rfl | rfl | rfl | rfl | rfl | rfl | rfl | rfl | rfl
    · refine lv_tableIn (off := 55) (tgt := 56) hx hb dX2_count_1 (by decide) (by decide) rfl (by decide) ?_
      refine lv_aload_n hx hb dX2_count_56 rfl (lv_at hl 0 rfl) ?_
      refine va_get (D := D) (ci := 2) (v := .int (nI n)) (C := RX2) (T := TX2) (N := 11) hx hb hg us_X2 hown hK.1 hP 0 XW_g0 rfl 2 (by decide) (hg _ gm_68) (fun _ h9 => h9) rfl dX2_count_57 ?_
      exact rr_i hx hb hr hlocks dX2_count_60 ((cnt_ok (w := 0) (by decide)).symm)
    · refine lv_tableIn (off := 60) (tgt := 61) hx hb dX2_count_1 (by decide) (by decide) rfl (by decide) ?_
      refine lv_aload_n hx hb dX2_count_61 rfl (lv_at hl 0 rfl) ?_
      refine va_get (D := D) (ci := 2) (v := .ref (a 5)) (C := RX2) (T := TX2) (N := 11) hx hb hg us_X2 hown hK.1 hP 0 XW_g0 rfl 5 (by decide) (hg _ gm_71) (fun _ h9 => h9) rfl dX2_count_62 ?_
      refine va_getN (D := D) (ci := 0) (v := .int (nI td)) (C := RX0) (T := TX0) (N := 11) hx hb hg us_X0 hown hK.1 hP 5 XW_g5 rfl 0 (by decide) (nl_112 hK) (fun _ h9 => h9) rfl dX2_count_65 ?_
      exact rr_i hx hb hr hlocks dX2_count_68 ((cnt_ok (w := 1) (by decide)).symm)
    · refine lv_tableIn (off := 68) (tgt := 69) hx hb dX2_count_1 (by decide) (by decide) rfl (by decide) ?_
      refine lv_aload_n hx hb dX2_count_69 rfl (lv_at hl 0 rfl) ?_
      refine va_get (D := D) (ci := 2) (v := .ref (a 5)) (C := RX2) (T := TX2) (N := 11) hx hb hg us_X2 hown hK.1 hP 0 XW_g0 rfl 5 (by decide) (hg _ gm_71) (fun _ h9 => h9) rfl dX2_count_70 ?_
      refine va_getN (D := D) (ci := 0) (v := .int bs) (C := RX0) (T := TX0) (N := 11) hx hb hg us_X0 hown hK.1 hP 5 XW_g5 rfl 1 (by decide) (nl_103 hK) (fun _ h9 => h9) rfl dX2_count_73 ?_
      exact rr_i hx hb hr hlocks dX2_count_76 ((cnt_ok (w := 2) (by decide)).symm)
    · refine lv_tableIn (off := 76) (tgt := 77) hx hb dX2_count_1 (by decide) (by decide) rfl (by decide) ?_
      refine lv_aload_n hx hb dX2_count_77 rfl (lv_at hl 0 rfl) ?_
      refine lv_aload_n hx hb dX2_count_78 rfl (lv_at hl 0 rfl) ?_
      refine va_get (D := D) (ci := 2) (v := .ref (a 5)) (C := RX2) (T := TX2) (N := 11) hx hb hg us_X2 hown hK.1 hP 0 XW_g0 rfl 5 (by decide) (hg _ gm_71) (fun _ h9 => h9) rfl dX2_count_79 ?_
      refine va_getN (D := D) (ci := 0) (v := .ref (a 6)) (C := RX0) (T := TX0) (N := 11) hx hb hg us_X0 hown hK.1 hP 5 XW_g5 rfl 4 (by decide) (nl_76 hK) (fun _ h9 => h9) rfl dX2_count_82 ?_
      have hP_1 : va_P D vwCl [(a 0, .inr (2, [.ref (a 1), .int (nI pl), .int (nI n), .int (nI st), .ref (a 3), .ref (a 5), .ref (a 20), .int ik, .ref (a 35), .ref (a 37), .ref (a 39)])), (a 3, .inr (1, [.ref (a 4)])), (a 4, .inl (cI, 6, .inl kd)), (a 6, .inr (1, [.ref (a 13)])), (a 13, .inl (cI, 6, .inl ag))] _ := P_s5 hP XW_g0 XW_g3 XW_g4 XW_g6 XW_g13
      refine rdV (As := [.ref (a 6)]) (rest := []) hx hb hml hown hg (c_X2_allNumbers l D cI cB aS (a 0) (a 3) (a 4) (a 6) (a 13) n ([.ref (a 1), .int (nI pl), .int (nI n), .int (nI st), .ref (a 3), .ref (a 5), .ref (a 20), .int ik, .ref (a 35), .ref (a 37), .ref (a 39)]) kd ag rfl rfl (by first | assumption | omega)) gm_217 vf_X2_allNumbers ⟨Nat.le_of_ble_eq_true rfl, Nat.le_of_ble_eq_true rfl⟩ ⟨rfl, rfl⟩ ⟨Nat.zero_le _, Nat.zero_le _⟩ (RP.preV hK hP_1 (q0 := 0) (ci := 2) rfl rfl) rfl hl.1 rfl (Nat.le_of_ble_eq_true rfl) dX2_count_85 ?_
      exact rr_i hx hb hr hlocks dX2_count_88 ((cnt_ok (w := 3) (by decide)).symm)
    · refine lv_tableIn (off := 88) (tgt := 89) hx hb dX2_count_1 (by decide) (by decide) rfl (by decide) ?_
      refine lv_aload_n hx hb dX2_count_89 rfl (lv_at hl 0 rfl) ?_
      refine rdV (As := []) (rest := []) hx hb hml hown hg (c_X2_unlikeNumbers l D cI cB aS _ pl n st ik td nd nh bs ktd knd knh kbs pg kd ag pa bo dm dn hh hn kag kpa kbo kdm kdn khh khn wb ps ty (by first | assumption | omega) (by first | assumption | omega)) gm_224 vf_X2_unlikeNumbers ⟨Nat.le_of_ble_eq_true rfl, Nat.le_of_ble_eq_true rfl⟩ ⟨rfl, rfl⟩ ⟨Nat.zero_le _, Nat.zero_le _⟩ (RP.preV hK hP (q0 := 0) (ci := 2) XW_g0 rfl) rfl hl.1 rfl (Nat.le_of_ble_eq_true rfl) dX2_count_90 ?_
      exact rr_i hx hb hr hlocks dX2_count_93 ((cnt_ok (w := 4) (by decide)).symm)
    · refine lv_tableIn (off := 93) (tgt := 94) hx hb dX2_count_1 (by decide) (by decide) rfl (by decide) ?_
      refine lv_aload_n hx hb dX2_count_94 rfl (lv_at hl 0 rfl) ?_
      refine va_get (D := D) (ci := 2) (v := .ref (a 5)) (C := RX2) (T := TX2) (N := 11) hx hb hg us_X2 hown hK.1 hP 0 XW_g0 rfl 5 (by decide) (hg _ gm_71) (fun _ h9 => h9) rfl dX2_count_95 ?_
      refine va_getN (D := D) (ci := 0) (v := .int (nI nd)) (C := RX0) (T := TX0) (N := 11) hx hb hg us_X0 hown hK.1 hP 5 XW_g5 rfl 2 (by decide) (nl_139 hK) (fun _ h9 => h9) rfl dX2_count_98 ?_
      exact rr_i hx hb hr hlocks dX2_count_101 ((cnt_ok (w := 5) (by decide)).symm)
    · refine lv_tableIn (off := 101) (tgt := 102) hx hb dX2_count_1 (by decide) (by decide) rfl (by decide) ?_
      refine lv_aload_n hx hb dX2_count_102 rfl (lv_at hl 0 rfl) ?_
      refine rdV (As := []) (rest := []) hx hb hml hown hg (c_X2_owedByAll l D cI cB aS _ pl n st ik td nd nh bs ktd knd knh kbs pg kd ag pa bo dm dn hh hn kag kpa kbo kdm kdn khh khn wb ps ty (by first | assumption | omega) (by first | assumption | omega) (by first | assumption | omega)) gm_227 vf_X2_owedByAll ⟨Nat.le_of_ble_eq_true rfl, Nat.le_of_ble_eq_true rfl⟩ ⟨rfl, rfl⟩ ⟨Nat.zero_le _, Nat.zero_le _⟩ (RP.preV hK hP (q0 := 0) (ci := 2) XW_g0 rfl) rfl hl.1 rfl (Nat.le_of_ble_eq_true rfl) dX2_count_103 ?_
      exact rr_i hx hb hr hlocks dX2_count_106 ((cnt_ok (w := 6) (by decide)).symm)
    · refine lv_tableIn (off := 106) (tgt := 107) hx hb dX2_count_1 (by decide) (by decide) rfl (by decide) ?_
      refine lv_aload_n hx hb dX2_count_107 rfl (lv_at hl 0 rfl) ?_
      refine va_get (D := D) (ci := 2) (v := .ref (a 5)) (C := RX2) (T := TX2) (N := 11) hx hb hg us_X2 hown hK.1 hP 0 XW_g0 rfl 5 (by decide) (hg _ gm_71) (fun _ h9 => h9) rfl dX2_count_108 ?_
      refine va_getN (D := D) (ci := 0) (v := .int (nI nh)) (C := RX0) (T := TX0) (N := 11) hx hb hg us_X0 hown hK.1 hP 5 XW_g5 rfl 3 (by decide) (nl_162 hK) (fun _ h9 => h9) rfl dX2_count_111 ?_
      exact rr_i hx hb hr hlocks dX2_count_114 ((cnt_ok (w := 7) (by decide)).symm)
    · refine lv_tableIn (off := 114) (tgt := 115) hx hb dX2_count_1 (by decide) (by decide) rfl (by decide) ?_
      refine lv_aload_n hx hb dX2_count_115 rfl (lv_at hl 0 rfl) ?_
      refine va_get (D := D) (ci := 2) (v := .int (nI pl)) (C := RX2) (T := TX2) (N := 11) hx hb hg us_X2 hown hK.1 hP 0 XW_g0 rfl 1 (by decide) (hg _ gm_67) (fun _ h9 => h9) rfl dX2_count_116 ?_
      exact rr_i hx hb hr hlocks dX2_count_119 ((cnt_ok (w := 8) (by decide)).symm)
    · refine lv_tableIn (off := 119) (tgt := 120) hx hb dX2_count_1 (by decide) (by decide) rfl (by decide) ?_
      refine lv_aload_n hx hb dX2_count_120 rfl (lv_at hl 0 rfl) ?_
      refine va_get (D := D) (ci := 2) (v := .int (nI st)) (C := RX2) (T := TX2) (N := 11) hx hb hg us_X2 hown hK.1 hP 0 XW_g0 rfl 3 (by decide) (hg _ gm_69) (fun _ h9 => h9) rfl dX2_count_121 ?_
      exact rr_i hx hb hr hlocks dX2_count_124 ((cnt_ok (w := 9) (by decide)).symm)
  · refine lv_tableOut (tgt := 125) hx hb dX2_count_1 (x_out c_1 (by decide)) (by decide) ?_
    refine lv_bipush (v := (-102)) hx hb dX2_count_125 (by decide) ?_
    exact rr_i hx hb hr hlocks dX2_count_127 ((if_neg c_1).symm)
