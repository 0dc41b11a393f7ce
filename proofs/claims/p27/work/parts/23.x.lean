abbrev rm_X2_unlikeNumbers : Room := { frames := 3, cells := 0, slots := 0, locals := 67 }
theorem vf_X2_numberNow : vfacts RX2 yX2_numberNow cX2_numberNow 2 (some .int) 1 := ⟨⟨rfl, by decide +kernel, by decide +kernel, by decide +kernel⟩, gm_100, gm_357, gm_2, gm_101⟩
theorem vf_X2_houseWith : vfacts RX2 yX2_houseWith cX2_houseWith 4 (some .int) 2 := ⟨⟨rfl, by decide +kernel, by decide +kernel, by decide +kernel⟩, gm_112, gm_360, gm_2, gm_113⟩
set_option maxRecDepth 100000 in
set_option maxHeartbeats 4000000 in
theorem c_X2_unlikeNumbers (l : Launch) (D : va_G) (cI cB : ClassId) (aS : Nat) (a : Nat → Nat) (pl n st : Nat) (ik : Int32) (td nd nh : Nat) (bs : Int32) (ktd knd knh : Nat) (kbs : Int32) (pg kd ag pa bo dm dn hh hn kag kpa kbo kdm kdn khh khn wb ps ty : Nat → Int32)  (hn6 : n ≤ 6) (qt : td ≤ 30) : Met l yX2_unlikeNumbers (mw yX2_unlikeNumbers cX2_unlikeNumbers 3 (some .int)) rm_X2_unlikeNumbers (RP D cI cB aS (XW cI a pl n st ik td nd nh bs ktd knd knh kbs pg kd ag pa bo dm dn hh hn kag kpa kbo kdm kdn khh khn wb ps ty) [.ref (a 0)]) (vp_Si (fun r => r = (nI (unF n (nmF kd ag))))) 0 0 (fun _ => False) := by
  refine met_of (by decide) (Nat.le_of_ble_eq_true rfl) ?_
  intro p e s m below meth c ls hx hb hr hml hown hg hlocks hin hK hP hl
  have hown : s.vm.findClass RX2 = some m.cls := hown
  have hl : lv_has ls 3 [(0, .ref (a 0))] := hl
  refine lv_iconst (v := (nI 0)) hx hb dX2_unlikeNumbers_0 (by decide) ?_
  refine lv_istore_n (lv' := [(1, .int (nI 0)), (0, .ref (a 0))]) hx hb dX2_unlikeNumbers_1 rfl hl (by decide) rfl (fun ls hl => ?_)
  refine lv_iconst (v := (nI 0)) hx hb dX2_unlikeNumbers_2 (by decide) ?_
  refine lv_istore_n (lv' := [(2, .int (nI 0)), (1, .int (nI 0)), (0, .ref (a 0))]) hx hb dX2_unlikeNumbers_3 rfl hl (by decide) rfl (fun ls hl => ?_)
  -- loop at 4
  refine loopR (nL := 3) (B := n) (I := fun i => True) (lv := fun i => [(0, .ref (a 0)), (1, .int (nI (cn (fun h => decide (hwF n (nmF kd ag) (nmF kd ag h) = nI h)) i))), (2, .int (nI i))]) 0 (Nat.zero_le _) (trivial) (by show lv_has ls 3 [(0, .ref (a 0)), (1, .int (nI (cn (fun h => decide (hwF n (nmF kd ag) (nmF kd ag h) = nI h)) 0))), (2, .int (nI 0))]; exact lv_sub hl [2, 1, 0] rfl) (fun i ls hj hI hl ih => ?_)
  have hl : lv_has ls 3 [(0, .ref (a 0)), (1, .int (nI (cn (fun h => decide (hwF n (nmF kd ag) (nmF kd ag h) = nI h)) i))), (2, .int (nI i))] := hl
  have ih_4 := ih
  refine lv_iload_n hx hb dX2_unlikeNumbers_4 rfl (lv_at hl 2 rfl) ?_
  refine lv_aload_n hx hb dX2_unlikeNumbers_5 rfl (lv_at hl 0 rfl) ?_
  refine va_get (D := D) (ci := 2) (v := .int (nI n)) (C := RX2) (T := TX2) (N := 11) hx hb hg us_X2 hown hK.1 hP 0 XW_g0 rfl 2 (by decide) (hg _ gm_68) (fun _ h9 => h9) rfl dX2_unlikeNumbers_6 ?_
  refine nv_icmp_ge (tgt := 41) hx hb dX2_unlikeNumbers_9 (by omega) (by omega) (by decide) (fun c_9 => ?_) (fun c_9 => ?_)
  · skip
    refine lv_iload_n hx hb dX2_unlikeNumbers_41 rfl (lv_at hl 1 rfl) ?_
    exact rr_i hx hb hr hlocks dX2_unlikeNumbers_42 (by rw [show i = n by omega]; rfl)
  · skip
    refine lv_aload_n hx hb dX2_unlikeNumbers_12 rfl (lv_at hl 0 rfl) ?_
    refine lv_aload_n hx hb dX2_unlikeNumbers_13 rfl (lv_at hl 0 rfl) ?_
    refine lv_iload_n hx hb dX2_unlikeNumbers_14 rfl (lv_at hl 2 rfl) ?_
    refine rdV (As := [.int (nI i)]) (rest := [.ref (a 0)]) hx hb hml hown hg (c_X2_numberNow l D cI cB aS _ pl n st ik td nd nh bs ktd knd knh kbs pg kd ag pa bo dm dn hh hn kag kpa kbo kdm kdn khh khn wb ps ty i (by first | assumption | omega) (by first | assumption | omega)) gm_99 vf_X2_numberNow ⟨Nat.le_of_ble_eq_true rfl, Nat.le_of_ble_eq_true rfl⟩ ⟨rfl, rfl⟩ ⟨Nat.zero_le _, Nat.zero_le _⟩ (RP.preV hK hP (q0 := 0) (ci := 2) XW_g0 rfl) rfl hl.1 rfl (Nat.le_of_ble_eq_true rfl) dX2_unlikeNumbers_15 ?_
    refine lv_aload_n hx hb dX2_unlikeNumbers_18 rfl (lv_at hl 0 rfl) ?_
    refine va_get (D := D) (ci := 2) (v := .ref (a 5)) (C := RX2) (T := TX2) (N := 11) hx hb hg us_X2 hown hK.1 hP 0 XW_g0 rfl 5 (by decide) (hg _ gm_71) (fun _ h9 => h9) rfl dX2_unlikeNumbers_19 ?_
    refine va_getN (D := D) (ci := 0) (v := .int (nI td)) (C := RX0) (T := TX0) (N := 11) hx hb hg us_X0 hown hK.1 hP 5 XW_g5 rfl 0 (by decide) (nl_112 hK) (fun _ h9 => h9) rfl dX2_unlikeNumbers_22 ?_
    refine rdV (As := [.int (nmF kd ag i), .int (nI td)]) (rest := []) hx hb hml hown hg (c_X2_houseWith l D cI cB aS _ pl n st ik td nd nh bs ktd knd knh kbs pg kd ag pa bo dm dn hh hn kag kpa kbo kdm kdn khh khn wb ps ty (nmF kd ag i) td (by first | assumption | omega) (by first | assumption | omega) (by first | assumption | omega)) gm_111 vf_X2_houseWith ⟨Nat.le_of_ble_eq_true rfl, Nat.le_of_ble_eq_true rfl⟩ ⟨rfl, rfl⟩ ⟨Nat.zero_le _, Nat.zero_le _⟩ (RP.preV hK hP (q0 := 0) (ci := 2) XW_g0 rfl) rfl hl.1 rfl (Nat.le_of_ble_eq_true rfl) dX2_unlikeNumbers_25 ?_
    rw [show ((hwF n (fun h => numOn kd ag pa td h td) (nmF kd ag i)) : Int32) = (hwF n (nmF kd ag) (nmF kd ag i)) from hwF_now]
    refine lv_iload_n hx hb dX2_unlikeNumbers_28 rfl (lv_at hl 2 rfl) ?_
    refine lv_icmp_ne (tgt := 35) hx hb dX2_unlikeNumbers_29 (by decide) (fun c_29 => ?_) (fun c_29 => ?_)
    · skip
      refine lv_iinc (v := (nI (i + 1))) (lv' := [(2, .int (nI (i + 1))), (0, .ref (a 0)), (1, .int (nI (cn (fun h => decide (hwF n (nmF kd ag) (nmF kd ag h) = nI h)) i)))]) hx hb dX2_unlikeNumbers_35 hl (k := 2) rfl (nI_i1 _) (by decide) rfl (fun ls hl => ?_)
      refine lv_goto (tgt := 4) hx hb dX2_unlikeNumbers_38 (by decide) ?_
      exact ih_4 _ (by omega) (trivial) (by show lv_has ls 3 [(0, .ref (a 0)), (1, .int (nI (cn (fun h => decide (hwF n (nmF kd ag) (nmF kd ag h) = nI h)) (i + 1)))), (2, .int (nI (i + 1)))]; rw [show (cn (fun h => decide (hwF n (nmF kd ag) (nmF kd ag h) = nI h)) (i + 1)) = cn (fun h => decide (hwF n (nmF kd ag) (nmF kd ag h) = nI h)) i from cn_f (decide_eq_false c_29)]; exact lv_sub hl [1, 2, 0] rfl)
    · skip
      refine lv_iinc (v := (nI (cn (fun h => decide (hwF n (nmF kd ag) (nmF kd ag h) = nI h)) i + 1))) (lv' := [(1, .int (nI (cn (fun h => decide (hwF n (nmF kd ag) (nmF kd ag h) = nI h)) i + 1))), (0, .ref (a 0)), (2, .int (nI i))]) hx hb dX2_unlikeNumbers_32 hl (k := 1) rfl (nI_i1 _) (by decide) rfl (fun ls hl => ?_)
      refine lv_iinc (v := (nI (i + 1))) (lv' := [(2, .int (nI (i + 1))), (1, .int (nI (cn (fun h => decide (hwF n (nmF kd ag) (nmF kd ag h) = nI h)) i + 1))), (0, .ref (a 0))]) hx hb dX2_unlikeNumbers_35 hl (k := 2) rfl (nI_i1 _) (by decide) rfl (fun ls hl => ?_)
      refine lv_goto (tgt := 4) hx hb dX2_unlikeNumbers_38 (by decide) ?_
      exact ih_4 _ (by omega) (trivial) (by show lv_has ls 3 [(0, .ref (a 0)), (1, .int (nI (cn (fun h => decide (hwF n (nmF kd ag) (nmF kd ag h) = nI h)) (i + 1)))), (2, .int (nI (i + 1)))]; rw [show (cn (fun h => decide (hwF n (nmF kd ag) (nmF kd ag h) = nI h)) (i + 1)) = cn (fun h => decide (hwF n (nmF kd ag) (nmF kd ag h) = nI h)) i + 1 from cn_t (decide_eq_true c_29)]; exact lv_sub hl [2, 1, 0] rfl)
abbrev rm_X2_owedBy : Room := { frames := 3, cells := 0, slots := 0, locals := 67 }
set_option maxRecDepth 100000 in
set_option maxHeartbeats 4000000 in
theorem c_X2_owedBy (l : Launch) (D : va_G) (cI cB : ClassId) (aS : Nat) (a : Nat → Nat) (pl n st : Nat) (ik : Int32) (td nd nh : Nat) (bs : Int32) (ktd knd knh : Nat) (kbs : Int32) (pg kd ag pa bo dm dn hh hn kag kpa kbo kdm kdn khh khn wb ps ty : Nat → Int32) (h : Nat) (qh : h < n) (hn6 : n ≤ 6) (qnd : nd ≤ 6) (qt : td ≤ 30) : Met l yX2_owedBy (mw yX2_owedBy cX2_owedBy 4 (some .int)) rm_X2_owedBy (RP D cI cB aS (XW cI a pl n st ik td nd nh bs ktd knd knh kbs pg kd ag pa bo dm dn hh hn kag kpa kbo kdm kdn khh khn wb ps ty) [.ref (a 0), .int (nI h)]) (vp_Si (fun r => r = (owF n (nmF kd ag) dm dn nd h))) 0 0 (fun _ => False) := by
  refine met_of (by decide) (Nat.le_of_ble_eq_true rfl) ?_
  intro p e s m below meth c ls hx hb hr hml hown hg hlocks hin hK hP hl
  have hown : s.vm.findClass RX2 = some m.cls := hown
  have hl : lv_has ls 4 [(0, .ref (a 0)), (1, .int (nI h))] := hl
  refine lv_iconst (v := (nI 0)) hx hb dX2_owedBy_0 (by decide) ?_
  refine lv_istore_n (lv' := [(2, .int (nI 0)), (0, .ref (a 0)), (1, .int (nI h))]) hx hb dX2_owedBy_1 rfl hl (by decide) rfl (fun ls hl => ?_)
  refine lv_iconst (v := (nI 0)) hx hb dX2_owedBy_2 (by decide) ?_
  refine lv_istore_n (lv' := [(3, .int (nI 0)), (2, .int (nI 0)), (0, .ref (a 0)), (1, .int (nI h))]) hx hb dX2_owedBy_3 rfl hl (by decide) rfl (fun ls hl => ?_)
  -- loop at 4
  refine loopR (nL := 4) (B := nd) (I := fun i => True) (lv := fun i => [(0, .ref (a 0)), (1, .int (nI h)), (2, .int (sm (fun k => if hwF n (nmF kd ag) (dn k) = nI h then dm k else nI 0) i)), (3, .int (nI i))]) 0 (Nat.zero_le _) (trivial) (by show lv_has ls 4 [(0, .ref (a 0)), (1, .int (nI h)), (2, .int (sm (fun k => if hwF n (nmF kd ag) (dn k) = nI h then dm k else nI 0) 0)), (3, .int (nI 0))]; exact lv_sub hl [2, 3, 1, 0] rfl) (fun i ls hj hI hl ih => ?_)
  have hl : lv_has ls 4 [(0, .ref (a 0)), (1, .int (nI h)), (2, .int (sm (fun k => if hwF n (nmF kd ag) (dn k) = nI h then dm k else nI 0) i)), (3, .int (nI i))] := hl
  have ih_4 := ih
  refine lv_iload_n hx hb dX2_owedBy_4 rfl (lv_at hl 3 rfl) ?_
  refine lv_aload_n hx hb dX2_owedBy_5 rfl (lv_at hl 0 rfl) ?_
  refine va_get (D := D) (ci := 2) (v := .ref (a 5)) (C := RX2) (T := TX2) (N := 11) hx hb hg us_X2 hown hK.1 hP 0 XW_g0 rfl 5 (by decide) (hg _ gm_71) (fun _ h9 => h9) rfl dX2_owedBy_6 ?_
  refine va_getN (D := D) (ci := 0) (v := .int (nI nd)) (C := RX0) (T := TX0) (N := 11) hx hb hg us_X0 hown hK.1 hP 5 XW_g5 rfl 2 (by decide) (nl_139 hK) (fun _ h9 => h9) rfl dX2_owedBy_9 ?_
  refine nv_icmp_ge (tgt := 61) hx hb dX2_owedBy_12 (by omega) (by omega) (by decide) (fun c_12 => ?_) (fun c_12 => ?_)
  · skip
    refine lv_iload_n hx hb dX2_owedBy_61 rfl (lv_at hl 2 rfl) ?_
    exact rr_i hx hb hr hlocks dX2_owedBy_62 (by unfold owF; rw [show i = nd by omega])
  · skip
    refine lv_aload_n hx hb dX2_owedBy_15 rfl (lv_at hl 0 rfl) ?_
    refine lv_aload_n hx hb dX2_owedBy_16 rfl (lv_at hl 0 rfl) ?_
    refine va_get (D := D) (ci := 2) (v := .ref (a 5)) (C := RX2) (T := TX2) (N := 11) hx hb hg us_X2 hown hK.1 hP 0 XW_g0 rfl 5 (by decide) (hg _ gm_71) (fun _ h9 => h9) rfl dX2_owedBy_17 ?_
    refine va_getN (D := D) (ci := 0) (v := .ref (a 10)) (C := RX0) (T := TX0) (N := 11) hx hb hg us_X0 hown hK.1 hP 5 XW_g5 rfl 8 (by decide) (nl_145 hK) (fun _ h9 => h9) rfl dX2_owedBy_20 ?_
    refine lv_iload_n hx hb dX2_owedBy_23 rfl (lv_at hl 3 rfl) ?_
    have hP_1 : va_P D vwCl [(a 10, .inr (1, [.ref (a 17)])), (a 17, .inl (cI, 6, .inl dn))] _ := P_s2 hP XW_g10 XW_g17
    refine rdV (As := [.int (nI i)]) (rest := [.ref (a 0)]) hx hb hml hown hg (c_X1_at l D cI cB aS (a 10) (a 17) 6 dn i (by first | assumption | omega) (by first | assumption | omega)) gm_95 vf_X1_at ⟨Nat.le_of_ble_eq_true rfl, Nat.le_of_ble_eq_true rfl⟩ ⟨rfl, rfl⟩ ⟨Nat.zero_le _, Nat.zero_le _⟩ (RP.preV hK hP_1 (q0 := 0) (ci := 1) rfl rfl) rfl hl.1 rfl (Nat.le_of_ble_eq_true rfl) dX2_owedBy_24 ?_
    refine lv_aload_n hx hb dX2_owedBy_27 rfl (lv_at hl 0 rfl) ?_
    refine va_get (D := D) (ci := 2) (v := .ref (a 5)) (C := RX2) (T := TX2) (N := 11) hx hb hg us_X2 hown hK.1 hP 0 XW_g0 rfl 5 (by decide) (hg _ gm_71) (fun _ h9 => h9) rfl dX2_owedBy_28 ?_
    refine va_getN (D := D) (ci := 0) (v := .int (nI td)) (C := RX0) (T := TX0) (N := 11) hx hb hg us_X0 hown hK.1 hP 5 XW_g5 rfl 0 (by decide) (nl_112 hK) (fun _ h9 => h9) rfl dX2_owedBy_31 ?_
    refine rdV (As := [.int (dn i), .int (nI td)]) (rest := []) hx hb hml hown hg (c_X2_houseWith l D cI cB aS _ pl n st ik td nd nh bs ktd knd knh kbs pg kd ag pa bo dm dn hh hn kag kpa kbo kdm kdn khh khn wb ps ty (dn i) td (by first | assumption | omega) (by first | assumption | omega) (by first | assumption | omega)) gm_111 vf_X2_houseWith ⟨Nat.le_of_ble_eq_true rfl, Nat.le_of_ble_eq_true rfl⟩ ⟨rfl, rfl⟩ ⟨Nat.zero_le _, Nat.zero_le _⟩ (RP.preV hK hP (q0 := 0) (ci := 2) XW_g0 rfl) rfl hl.1 rfl (Nat.le_of_ble_eq_true rfl) dX2_owedBy_34 ?_
    rw [show ((hwF n (fun h => numOn kd ag pa td h td) (dn i)) : Int32) = (hwF n (nmF kd ag) (dn i)) from hwF_now]
    refine lv_iload_n hx hb dX2_owedBy_37 rfl (lv_at hl 1 rfl) ?_
    refine lv_icmp_ne (tgt := 55) hx hb dX2_owedBy_38 (by decide) (fun c_38 => ?_) (fun c_38 => ?_)
    · skip
      refine lv_iinc (v := (nI (i + 1))) (lv' := [(3, .int (nI (i + 1))), (0, .ref (a 0)), (1, .int (nI h)), (2, .int (sm (fun k => if hwF n (nmF kd ag) (dn k) = nI h then dm k else nI 0) i))]) hx hb dX2_owedBy_55 hl (k := 3) rfl (nI_i1 _) (by decide) rfl (fun ls hl => ?_)
      refine lv_goto (tgt := 4) hx hb dX2_owedBy_58 (by decide) ?_
      exact ih_4 _ (by omega) (trivial) (by show lv_has ls 4 [(0, .ref (a 0)), (1, .int (nI h)), (2, .int (sm (fun k => if hwF n (nmF kd ag) (dn k) = nI h then dm k else nI 0) (i + 1))), (3, .int (nI (i + 1)))]; rw [show (sm (fun k => if hwF n (nmF kd ag) (dn k) = nI h then dm k else nI 0) (i + 1)) = sm (fun k => if hwF n (nmF kd ag) (dn k) = nI h then dm k else nI 0) i from (by simp only [sm]; rw [if_neg c_38]; exact Int32.add_zero _)]; exact lv_sub hl [1, 2, 3, 0] rfl)
    · skip
      refine lv_iload_n hx hb dX2_owedBy_41 rfl (lv_at hl 2 rfl) ?_
      refine lv_aload_n hx hb dX2_owedBy_42 rfl (lv_at hl 0 rfl) ?_
      refine va_get (D := D) (ci := 2) (v := .ref (a 5)) (C := RX2) (T := TX2) (N := 11) hx hb hg us_X2 hown hK.1 hP 0 XW_g0 rfl 5 (by decide) (hg _ gm_71) (fun _ h9 => h9) rfl dX2_owedBy_43 ?_
      refine va_getN (D := D) (ci := 0) (v := .ref (a 9)) (C := RX0) (T := TX0) (N := 11) hx hb hg us_X0 hown hK.1 hP 5 XW_g5 rfl 7 (by decide) (nl_142 hK) (fun _ h9 => h9) rfl dX2_owedBy_46 ?_
      refine lv_iload_n hx hb dX2_owedBy_49 rfl (lv_at hl 3 rfl) ?_
      have hP_2 : va_P D vwCl [(a 9, .inr (1, [.ref (a 16)])), (a 16, .inl (cI, 6, .inl dm))] _ := P_s2 hP XW_g9 XW_g16
      refine rdV (As := [.int (nI i)]) (rest := [.int (sm (fun k => if hwF n (nmF kd ag) (dn k) = nI h then dm k else nI 0) i)]) hx hb hml hown hg (c_X1_at l D cI cB aS (a 9) (a 16) 6 dm i (by first | assumption | omega) (by first | assumption | omega)) gm_95 vf_X1_at ⟨Nat.le_of_ble_eq_true rfl, Nat.le_of_ble_eq_true rfl⟩ ⟨rfl, rfl⟩ ⟨Nat.zero_le _, Nat.zero_le _⟩ (RP.preV hK hP_2 (q0 := 0) (ci := 1) rfl rfl) rfl hl.1 rfl (Nat.le_of_ble_eq_true rfl) dX2_owedBy_50 ?_
      refine lv_iadd hx hb dX2_owedBy_53 ?_
      refine lv_istore_n (lv' := [(2, .int ((sm (fun k => if hwF n (nmF kd ag) (dn k) = nI h then dm k else nI 0) i) + (dm i))), (0, .ref (a 0)), (1, .int (nI h)), (3, .int (nI i))]) hx hb dX2_owedBy_54 rfl hl (by decide) rfl (fun ls hl => ?_)
      refine lv_iinc (v := (nI (i + 1))) (lv' := [(3, .int (nI (i + 1))), (2, .int ((sm (fun k => if hwF n (nmF kd ag) (dn k) = nI h then dm k else nI 0) i) + (dm i))), (0, .ref (a 0)), (1, .int (nI h))]) hx hb dX2_owedBy_55 hl (k := 3) rfl (nI_i1 _) (by decide) rfl (fun ls hl => ?_)
      refine lv_goto (tgt := 4) hx hb dX2_owedBy_58 (by decide) ?_
      exact ih_4 _ (by omega) (trivial) (by show lv_has ls 4 [(0, .ref (a 0)), (1, .int (nI h)), (2, .int (sm (fun k => if hwF n (nmF kd ag) (dn k) = nI h then dm k else nI 0) (i + 1))), (3, .int (nI (i + 1)))]; rw [show (sm (fun k => if hwF n (nmF kd ag) (dn k) = nI h then dm k else nI 0) (i + 1)) = (sm (fun k => if hwF n (nmF kd ag) (dn k) = nI h then dm k else nI 0) i) + (dm i) from (by simp only [sm]; rw [if_pos c_38])]; exact lv_sub hl [2, 3, 1, 0] rfl)
abbrev rm_X2_owedByAll : Room := { frames := 4, cells := 0, slots := 0, locals := 90 }
theorem vf_X2_owedBy : vfacts RX2 yX2_owedBy cX2_owedBy 4 (some .int) 1 := ⟨⟨rfl, by decide +kernel, by decide +kernel, by decide +kernel⟩, gm_109, gm_359, gm_2, gm_110⟩
set_option maxRecDepth 100000 in
set_option maxHeartbeats 4000000 in
theorem c_X2_owedByAll (l : Launch) (D : va_G) (cI cB : ClassId) (aS : Nat) (a : Nat → Nat) (pl n st : Nat) (ik : Int32) (td nd nh : Nat) (bs : Int32) (ktd knd knh : Nat) (kbs : Int32) (pg kd ag pa bo dm dn hh hn kag kpa kbo kdm kdn khh khn wb ps ty : Nat → Int32)  (hn6 : n ≤ 6) (qnd : nd ≤ 6) (qt : td ≤ 30) : Met l yX2_owedByAll (mw yX2_owedByAll cX2_owedByAll 3 (some .int)) rm_X2_owedByAll (RP D cI cB aS (XW cI a pl n st ik td nd nh bs ktd knd knh kbs pg kd ag pa bo dm dn hh hn kag kpa kbo kdm kdn khh khn wb ps ty) [.ref (a 0)]) (vp_Si (fun r => r = (owA n (nmF kd ag) dm dn nd))) 0 0 (fun _ => False) := by
  refine met_of (by decide) (Nat.le_of_ble_eq_true rfl) ?_
  intro p e s m below meth c ls hx hb hr hml hown hg hlocks hin hK hP hl
  have hown : s.vm.findClass RX2 = some m.cls := hown
  have hl : lv_has ls 3 [(0, .ref (a 0))] := hl
  refine lv_iconst (v := (nI 0)) hx hb dX2_owedByAll_0 (by decide) ?_
  refine lv_istore_n (lv' := [(1, .int (nI 0)), (0, .ref (a 0))]) hx hb dX2_owedByAll_1 rfl hl (by decide) rfl (fun ls hl => ?_)
  refine lv_iconst (v := (nI 0)) hx hb dX2_owedByAll_2 (by decide) ?_
  refine lv_istore_n (lv' := [(2, .int (nI 0)), (1, .int (nI 0)), (0, .ref (a 0))]) hx hb dX2_owedByAll_3 rfl hl (by decide) rfl (fun ls hl => ?_)
  -- loop at 4
  refine loopR (nL := 3) (B := n) (I := fun i => True) (lv := fun i => [(0, .ref (a 0)), (1, .int (sm (fun h => owF n (nmF kd ag) dm dn nd h) i)), (2, .int (nI i))]) 0 (Nat.zero_le _) (trivial) (by show lv_has ls 3 [(0, .ref (a 0)), (1, .int (sm (fun h => owF n (nmF kd ag) dm dn nd h) 0)), (2, .int (nI 0))]; exact lv_sub hl [2, 1, 0] rfl) (fun i ls hj hI hl ih => ?_)
  have hl : lv_has ls 3 [(0, .ref (a 0)), (1, .int (sm (fun h => owF n (nmF kd ag) dm dn nd h) i)), (2, .int (nI i))] := hl
  have ih_4 := ih
  refine lv_iload_n hx hb dX2_owedByAll_4 rfl (lv_at hl 2 rfl) ?_
  refine lv_aload_n hx hb dX2_owedByAll_5 rfl (lv_at hl 0 rfl) ?_
  refine va_get (D := D) (ci := 2) (v := .int (nI n)) (C := RX2) (T := TX2) (N := 11) hx hb hg us_X2 hown hK.1 hP 0 XW_g0 rfl 2 (by decide) (hg _ gm_68) (fun _ h9 => h9) rfl dX2_owedByAll_6 ?_
  refine nv_icmp_ge (tgt := 26) hx hb dX2_owedByAll_9 (by omega) (by omega) (by decide) (fun c_9 => ?_) (fun c_9 => ?_)
  · skip
    refine lv_iload_n hx hb dX2_owedByAll_26 rfl (lv_at hl 1 rfl) ?_
    exact rr_i hx hb hr hlocks dX2_owedByAll_27 (by rw [show i = n by omega]; rfl)
  · skip
    refine lv_iload_n hx hb dX2_owedByAll_12 rfl (lv_at hl 1 rfl) ?_
    refine lv_aload_n hx hb dX2_owedByAll_13 rfl (lv_at hl 0 rfl) ?_
    refine lv_iload_n hx hb dX2_owedByAll_14 rfl (lv_at hl 2 rfl) ?_
    refine rdV (As := [.int (nI i)]) (rest := [.int (sm (fun h => owF n (nmF kd ag) dm dn nd h) i)]) hx hb hml hown hg (c_X2_owedBy l D cI cB aS _ pl n st ik td nd nh bs ktd knd knh kbs pg kd ag pa bo dm dn hh hn kag kpa kbo kdm kdn khh khn wb ps ty i (by first | assumption | omega) (by first | assumption | omega) (by first | assumption | omega) (by first | assumption | omega)) gm_108 vf_X2_owedBy ⟨Nat.le_of_ble_eq_true rfl, Nat.le_of_ble_eq_true rfl⟩ ⟨rfl, rfl⟩ ⟨Nat.zero_le _, Nat.zero_le _⟩ (RP.preV hK hP (q0 := 0) (ci := 2) XW_g0 rfl) rfl hl.1 rfl (Nat.le_of_ble_eq_true rfl) dX2_owedByAll_15 ?_
    refine lv_iadd hx hb dX2_owedByAll_18 ?_
    refine lv_istore_n (lv' := [(1, .int ((sm (fun h => owF n (nmF kd ag) dm dn nd h) i) + (owF n (nmF kd ag) dm dn nd i))), (0, .ref (a 0)), (2, .int (nI i))]) hx hb dX2_owedByAll_19 rfl hl (by decide) rfl (fun ls hl => ?_)
    refine lv_iinc (v := (nI (i + 1))) (lv' := [(2, .int (nI (i + 1))), (1, .int ((sm (fun h => owF n (nmF kd ag) dm dn nd h) i) + (owF n (nmF kd ag) dm dn nd i))), (0, .ref (a 0))]) hx hb dX2_owedByAll_20 hl (k := 2) rfl (nI_i1 _) (by decide) rfl (fun ls hl => ?_)
    refine lv_goto (tgt := 4) hx hb dX2_owedByAll_23 (by decide) ?_
    exact ih_4 _ (by omega) (trivial) (by show lv_has ls 3 [(0, .ref (a 0)), (1, .int (sm (fun h => owF n (nmF kd ag) dm dn nd h) (i + 1))), (2, .int (nI (i + 1)))]; rw [show (sm (fun h => owF n (nmF kd ag) dm dn nd h) (i + 1)) = (sm (fun h => owF n (nmF kd ag) dm dn nd h) i) + (owF n (nmF kd ag) dm dn nd i) from rfl]; exact lv_sub hl [2, 1, 0] rfl)
abbrev rm_X2_drawnHouse : Room := { frames := 0, cells := 0, slots := 0, locals := 0 }
set_option maxRecDepth 100000 in
set_option maxHeartbeats 4000000 in
theorem c_X2_drawnHouse (l : Launch) (D : va_G) (cI cB : ClassId) (aS : Nat) (a : Nat → Nat) (pl n st : Nat) (ik : Int32) (td nd nh : Nat) (bs : Int32) (ktd knd knh : Nat) (kbs : Int32) (pg kd ag pa bo dm dn hh hn kag kpa kbo kdm kdn khh khn wb ps ty : Nat → Int32) (z : Nat) (hn6 : n ≤ 6) (qn : 0 < n) (qz : z < 2147483648) : Met l yX2_drawnHouse (mw yX2_drawnHouse cX2_drawnHouse 2 (some .int)) rm_X2_drawnHouse (RP D cI cB aS (XW cI a pl n st ik td nd nh bs ktd knd knh kbs pg kd ag pa bo dm dn hh hn kag kpa kbo kdm kdn khh khn wb ps ty) [.ref (a 0), .int (nI z)]) (vp_Si (fun r => r = (nI (drF n z)))) 0 0 (fun _ => False) := by
  refine met_of (by decide) (Nat.le_of_ble_eq_true rfl) ?_
  intro p e s m below meth c ls hx hb hr hml hown hg hlocks hin hK hP hl
  have hown : s.vm.findClass RX2 = some m.cls := hown
  have hl : lv_has ls 2 [(0, .ref (a 0)), (1, .int (nI z))] := hl
  refine lv_aload_n hx hb dX2_drawnHouse_0 rfl (lv_at hl 0 rfl) ?_
  refine va_get (D := D) (ci := 2) (v := .int (nI n)) (C := RX2) (T := TX2) (N := 11) hx hb hg us_X2 hown hK.1 hP 0 XW_g0 rfl 2 (by decide) (hg _ gm_68) (fun _ h9 => h9) rfl dX2_drawnHouse_1 ?_
  refine lv_iconst (v := (nI 1)) hx hb dX2_drawnHouse_4 (by decide) ?_
  refine nv_icmp_ge (tgt := 12) hx hb dX2_drawnHouse_5 (by omega) (by omega) (by decide) (fun c_5 => ?_) (fun c_5 => ?_)
  · skip
    refine lv_iload_n hx hb dX2_drawnHouse_12 rfl (lv_at hl 1 rfl) ?_
    refine lv_ldcw (v := (nI 65536)) hx hb hown (hg _ gm_213) dX2_drawnHouse_13 ?_
    refine nv_idiv hx hb dX2_drawnHouse_16 (by omega) (by omega) (by omega) ?_
    refine lv_aload_n hx hb dX2_drawnHouse_17 rfl (lv_at hl 0 rfl) ?_
    refine va_get (D := D) (ci := 2) (v := .int (nI n)) (C := RX2) (T := TX2) (N := 11) hx hb hg us_X2 hown hK.1 hP 0 XW_g0 rfl 2 (by decide) (hg _ gm_68) (fun _ h9 => h9) rfl dX2_drawnHouse_18 ?_
    refine nv_irem hx hb dX2_drawnHouse_21 (by omega) (by omega) (by omega) ?_
    exact rr_i hx hb hr hlocks dX2_drawnHouse_22 rfl
  · exact absurd c_5 (by omega)
abbrev rm_X2_nextSeed : Room := { frames := 0, cells := 0, slots := 0, locals := 0 }
set_option maxRecDepth 100000 in
set_option maxHeartbeats 4000000 in
theorem c_X2_nextSeed (l : Launch) (D : va_G) (cI cB : ClassId) (aS : Nat) (z : Nat) (qz : z < 2147483648) : Met l yX2_nextSeed (mw yX2_nextSeed cX2_nextSeed 1 (some .int)) rm_X2_nextSeed (RP D cI cB aS ([]) [.int (nI z)]) (vp_Si (fun r => r = (nI (sdF z)))) 0 0 (fun _ => False) := by
  refine met_of (by decide) (Nat.le_of_ble_eq_true rfl) ?_
  intro p e s m below meth c ls hx hb hr hml hown hg hlocks hin hK hP hl
  have hown : s.vm.findClass RX2 = some m.cls := hown
  have hl : lv_has ls 1 [(0, .int (nI z))] := hl
  refine lv_ldc2 hx hb hown (hg _ gm_207) dX2_nextSeed_0 ?_
  refine lv_iload_n hx hb dX2_nextSeed_3 rfl (lv_at hl 0 rfl) ?_
  refine lv_i2l (v := (nI z).toInt64) hx hb dX2_nextSeed_4 rfl ?_
  refine lv_lmul hx hb dX2_nextSeed_5 ?_
  refine lv_ldc2 hx hb hown (hg _ gm_208) dX2_nextSeed_6 ?_
  refine lv_ladd hx hb dX2_nextSeed_9 ?_
  refine lv_ldc2 hx hb hown (hg _ gm_209) dX2_nextSeed_10 ?_
  refine lv_lrem hx hb dX2_nextSeed_13 (by decide) ?_
  refine lv_l2i (v := ((((1103515245 : Int64) * ((nI z).toInt64)) + (12345 : Int64)) - (((1103515245 : Int64) * ((nI z).toInt64)) + (12345 : Int64)) / (2147483648 : Int64) * (2147483648 : Int64)).toInt32) hx hb dX2_nextSeed_14 rfl ?_
  rw [show ((((((1103515245 : Int64) * ((nI z).toInt64)) + (12345 : Int64)) - (((1103515245 : Int64) * ((nI z).toInt64)) + (12345 : Int64)) / (2147483648 : Int64) * (2147483648 : Int64)).toInt32) : Int32) = (nI (sdF z)) from sd_x z qz]
  exact rr_i hx hb hr hlocks dX2_nextSeed_15 rfl
abbrev rm_X2_walk : Room := { frames := 5, cells := 0, slots := 0, locals := 117 }
theorem vf_X2_lengthOfWalk : vfacts RX2 yX2_lengthOfWalk cX2_lengthOfWalk 6 (some .int) 1 := ⟨⟨rfl, by decide +kernel, by decide +kernel, by decide +kernel⟩, gm_176, gm_367, gm_2, gm_177⟩
set_option maxRecDepth 100000 in
set_option maxHeartbeats 4000000 in
theorem c_X2_walk (l : Launch) (D : va_G) (cI cB : ClassId) (aS : Nat) (a : Nat → Nat) (pl n st : Nat) (ik : Int32) (td nd nh : Nat) (bs : Int32) (ktd knd knh : Nat) (kbs : Int32) (pg kd ag pa bo dm dn hh hn kag kpa kbo kdm kdn khh khn wb ps ty : Nat → Int32)  (hn6 : n ≤ 6) : Met l yX2_walk (mw yX2_walk cX2_walk 1 (some .int)) rm_X2_walk (RP D cI cB aS (XW cI a pl n st ik td nd nh bs ktd knd knh kbs pg kd ag pa bo dm dn hh hn kag kpa kbo kdm kdn khh khn wb ps ty) [.ref (a 0)]) (vp_Si (fun r => r = (if n = 0 then -103 else nI (wkF n (nmF kd ag) n)))) 0 0 (fun _ => False) := by
  refine met_of (by decide) (Nat.le_of_ble_eq_true rfl) ?_
  intro p e s m below meth c ls hx hb hr hml hown hg hlocks hin hK hP hl
  have hown : s.vm.findClass RX2 = some m.cls := hown
  have hl : lv_has ls 1 [(0, .ref (a 0))] := hl
  refine lv_aload_n hx hb dX2_walk_0 rfl (lv_at hl 0 rfl) ?_
  refine va_get (D := D) (ci := 2) (v := .int (nI n)) (C := RX2) (T := TX2) (N := 11) hx hb hg us_X2 hown hK.1 hP 0 XW_g0 rfl 2 (by decide) (hg _ gm_68) (fun _ h9 => h9) rfl dX2_walk_1 ?_
  refine nv_if_ne (tgt := 10) hx hb dX2_walk_4 (by omega) (by decide) (fun c_4 => ?_) (fun c_4 => ?_)
  · skip
    refine lv_aload_n hx hb dX2_walk_10 rfl (lv_at hl 0 rfl) ?_
    refine lv_aload_n hx hb dX2_walk_11 rfl (lv_at hl 0 rfl) ?_
    refine va_get (D := D) (ci := 2) (v := .ref (a 5)) (C := RX2) (T := TX2) (N := 11) hx hb hg us_X2 hown hK.1 hP 0 XW_g0 rfl 5 (by decide) (hg _ gm_71) (fun _ h9 => h9) rfl dX2_walk_12 ?_
    refine va_getN (D := D) (ci := 0) (v := .ref (a 6)) (C := RX0) (T := TX0) (N := 11) hx hb hg us_X0 hown hK.1 hP 5 XW_g5 rfl 4 (by decide) (nl_76 hK) (fun _ h9 => h9) rfl dX2_walk_15 ?_
    have hP_1 : va_P D vwCl [(a 0, .inr (2, [.ref (a 1), .int (nI pl), .int (nI n), .int (nI st), .ref (a 3), .ref (a 5), .ref (a 20), .int ik, .ref (a 35), .ref (a 37), .ref (a 39)])), (a 3, .inr (1, [.ref (a 4)])), (a 4, .inl (cI, 6, .inl kd)), (a 6, .inr (1, [.ref (a 13)])), (a 13, .inl (cI, 6, .inl ag))] _ := P_s5 hP XW_g0 XW_g3 XW_g4 XW_g6 XW_g13
    refine rdV (As := [.ref (a 6)]) (rest := []) hx hb hml hown hg (c_X2_lengthOfWalk l D cI cB aS (a 0) (a 3) (a 4) (a 6) (a 13) n ([.ref (a 1), .int (nI pl), .int (nI n), .int (nI st), .ref (a 3), .ref (a 5), .ref (a 20), .int ik, .ref (a 35), .ref (a 37), .ref (a 39)]) kd ag rfl rfl (by first | assumption | omega)) gm_175 vf_X2_lengthOfWalk ⟨Nat.le_of_ble_eq_true rfl, Nat.le_of_ble_eq_true rfl⟩ ⟨rfl, rfl⟩ ⟨Nat.zero_le _, Nat.zero_le _⟩ (RP.preV hK hP_1 (q0 := 0) (ci := 2) rfl rfl) rfl hl.1 rfl (Nat.le_of_ble_eq_true rfl) dX2_walk_18 ?_
    exact rr_i hx hb hr hlocks dX2_walk_21 ((if_neg c_4).symm)
  · skip
    refine lv_bipush (v := (-103)) hx hb dX2_walk_7 (by decide) ?_
    exact rr_i hx hb hr hlocks dX2_walk_9 ((if_pos c_4).symm)
