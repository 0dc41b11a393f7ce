theorem vf_X2_walk : vfacts RX2 yX2_walk cX2_walk 1 (some .int) 0 := ⟨⟨rfl, by decide +kernel, by decide +kernel, by decide +kernel⟩, gm_172, gm_173, gm_2, gm_174⟩
theorem sf_L_walk : sfacts RL yL_walk cL_walk 7 (some .int) 1 := ⟨⟨rfl, by decide +kernel, by decide +kernel, by decide +kernel⟩, gm_338, gm_1, gm_339⟩
theorem vf_X2_count : vfacts RX2 yX2_count cX2_count 2 (some .int) 1 := ⟨⟨rfl, by decide +kernel, by decide +kernel, by decide +kernel⟩, gm_221, gm_222, gm_2, gm_223⟩
theorem sf_L_numbers : sfacts RL yL_numbers cL_numbers 3 (some .int) 1 := ⟨⟨rfl, by decide +kernel, by decide +kernel, by decide +kernel⟩, gm_341, gm_1, gm_342⟩
theorem vf_X2_about : vfacts RX2 yX2_about cX2_about 3 (some .int) 2 := ⟨⟨rfl, by decide +kernel, by decide +kernel, by decide +kernel⟩, gm_89, gm_90, gm_2, gm_91⟩
theorem sf_L_order : sfacts RL yL_order cL_order 4 (some .int) 2 := ⟨⟨rfl, by decide +kernel, by decide +kernel, by decide +kernel⟩, gm_335, gm_1, gm_336⟩
theorem vf_X2_then : vfacts RX2 yX2_then cX2_then 3 (some .int) 2 := ⟨⟨rfl, by decide +kernel, by decide +kernel, by decide +kernel⟩, gm_161, gm_162, gm_2, gm_163⟩
theorem sf_L_then : sfacts RL yL_then cL_then 4 (some .int) 4 := ⟨⟨rfl, by decide +kernel, by decide +kernel, by decide +kernel⟩, gm_322, gm_1, gm_323⟩
theorem vf_X2_goesTo : vfacts RX2 yX2_goesTo cX2_goesTo 3 (some .int) 2 := ⟨⟨rfl, by decide +kernel, by decide +kernel, by decide +kernel⟩, gm_168, gm_169, gm_2, gm_170⟩
theorem vf_X2_when : vfacts RX2 yX2_when cX2_when 6 (some .int) 2 := ⟨⟨rfl, by decide +kernel, by decide +kernel, by decide +kernel⟩, gm_193, gm_194, gm_2, gm_195⟩
theorem vf_X2_as : vfacts RX2 yX2_as cX2_as 3 (some .int) 2 := ⟨⟨rfl, by decide +kernel, by decide +kernel, by decide +kernel⟩, gm_124, gm_125, gm_2, gm_126⟩
set_option maxRecDepth 100000 in
set_option maxHeartbeats 8000000 in
theorem law_houses {p : Program} {l : Launch} {e : Env} {s : State} {m : MethodId} {args : Array Value} {below : List Frame} {meth : Method} {c : Code} {D : va_G} {cI cB : ClassId} {aS aV : Nat} {A : Nat → Prop} {a y : Nat → Nat} {q L : Nat} {xs : Nat → Int32} {cells slots : Nat} {Q : State → Prop} (C : zC p s m c args D cI cB aS aV A a y q L xs) (hc : cells ≤ room_1.cells ∧ slots ≤ room_1.slots) {trip n nd t x : Nat} {owed : Int32} (qx : x < 2147483648) {H : Heap} {locs : List Loc} {ls : Array Slot} (J : zJ D cI cB A a y s n nd owed H locs) (hl : lv_has ls 25 [(0, .ref q), (1, .ref (a 0)), (2, .ref (y 0)), (3, .ref (y 1)), (4, .ref (y 2)), (5, .ref (y 3)), (6, .ref (y 4)), (7, .int (nI trip)), (8, .int (nI (29 * trip))), (9, .int (nI n)), (10, .int owed), (11, .int (nI nd)), (12, .int (nI t)), (13, .int (nI x))]) (kk : ∀ (H : Heap) (locs : List Loc) (ls : Array Slot), zJ D cI cB A a y s n nd owed H locs → lv_has ls 25 [(0, .ref q), (1, .ref (a 0)), (2, .ref (y 0)), (3, .ref (y 1)), (4, .ref (y 2)), (5, .ref (y 3)), (6, .ref (y 4)), (7, .int (nI trip)), (8, .int (nI (29 * trip))), (9, .int (nI n)), (10, .int owed), (11, .int (nI nd)), (12, .int (nI t)), (13, .int (nI x))] → W p l e room_1 s m args below meth c H locs cells slots Q (F0 m 830 ls [])) : W p l e room_1 s m args below meth c H locs cells slots Q (F0 m 225 ls []) := by
  obtain ⟨hx, hb, hml, hown, hg, hK, hE, hX, hbl, hbA, hL, hDZ⟩ := C
  obtain ⟨st, ik, td, nh, bs, ktd, knd, knh, kbs, pg, kd, ag, pa, bo, dm, dn, hh, hn, kag, kpa, kbo, kdm, kdn, khh, khn, wb, ps, ty, wa, wc, ga, tt, ow, hzI, hzD, how, hP, hS⟩ := J
  obtain ⟨h2n, hn6, qt, hw0, hw1, hw2, hho, hg9⟩ := id hzI
  have qnd := hzD.1
  have hn0 : 0 < n := by omega
  have hD : va_D A (ZW cI cB a y 0 n st ik td nd nh bs ktd knd knh kbs pg kd ag pa bo dm dn hh hn kag kpa kbo kdm kdn khh khn wb ps ty wa wc ga tt ow) := hDZ _ ZW_addr
  refine lv_iconst (v := (nI 0)) hx hb dL_law_225 (by decide) ?_
  refine lv_istore (lv' := [(14, .int (nI 0)), (0, .ref q), (1, .ref (a 0)), (2, .ref (y 0)), (3, .ref (y 1)), (4, .ref (y 2)), (5, .ref (y 3)), (6, .ref (y 4)), (7, .int (nI trip)), (8, .int (nI (29 * trip))), (9, .int (nI n)), (10, .int owed), (11, .int (nI nd)), (12, .int (nI t)), (13, .int (nI x))]) hx hb dL_law_226 hl (by decide) rfl (fun ls hl => ?_)
  refine lv_iconst (v := (nI 0)) hx hb dL_law_228 (by decide) ?_
  refine lv_istore (lv' := [(15, .int (nI 0)), (14, .int (nI 0)), (0, .ref q), (1, .ref (a 0)), (2, .ref (y 0)), (3, .ref (y 1)), (4, .ref (y 2)), (5, .ref (y 3)), (6, .ref (y 4)), (7, .int (nI trip)), (8, .int (nI (29 * trip))), (9, .int (nI n)), (10, .int owed), (11, .int (nI nd)), (12, .int (nI t)), (13, .int (nI x))]) hx hb dL_law_229 hl (by decide) rfl (fun ls hl => ?_)
  refine lv_iconst (v := (nI 0)) hx hb dL_law_231 (by decide) ?_
  refine lv_istore (lv' := [(16, .int (nI 0)), (15, .int (nI 0)), (14, .int (nI 0)), (0, .ref q), (1, .ref (a 0)), (2, .ref (y 0)), (3, .ref (y 1)), (4, .ref (y 2)), (5, .ref (y 3)), (6, .ref (y 4)), (7, .int (nI trip)), (8, .int (nI (29 * trip))), (9, .int (nI n)), (10, .int owed), (11, .int (nI nd)), (12, .int (nI t)), (13, .int (nI x))]) hx hb dL_law_232 hl (by decide) rfl (fun ls hl => ?_)
  -- loop at 234
  refine loopR (nL := 25) (B := n) (I := fun k => True) (lv := fun k => [(0, .ref q), (1, .ref (a 0)), (2, .ref (y 0)), (3, .ref (y 1)), (4, .ref (y 2)), (5, .ref (y 3)), (6, .ref (y 4)), (7, .int (nI trip)), (8, .int (nI (29 * trip))), (9, .int (nI n)), (10, .int owed), (11, .int (nI nd)), (12, .int (nI t)), (13, .int (nI x)), (14, .int (owS n wa ow tt nd k)), (15, .int (nI (unS n wa k))), (16, .int (nI k))]) 0 (Nat.zero_le _) (trivial) (by show lv_has ls 25 [(0, .ref q), (1, .ref (a 0)), (2, .ref (y 0)), (3, .ref (y 1)), (4, .ref (y 2)), (5, .ref (y 3)), (6, .ref (y 4)), (7, .int (nI trip)), (8, .int (nI (29 * trip))), (9, .int (nI n)), (10, .int owed), (11, .int (nI nd)), (12, .int (nI t)), (13, .int (nI x)), (14, .int (owS n wa ow tt nd 0)), (15, .int (nI (unS n wa 0))), (16, .int (nI 0))]; exact lv_sub hl [3, 4, 5, 6, 7, 8, 9, 10, 11, 12, 13, 14, 15, 16, 2, 1, 0] rfl) (fun k ls hj hI hl ih => ?_)
  have hl : lv_has ls 25 [(0, .ref q), (1, .ref (a 0)), (2, .ref (y 0)), (3, .ref (y 1)), (4, .ref (y 2)), (5, .ref (y 3)), (6, .ref (y 4)), (7, .int (nI trip)), (8, .int (nI (29 * trip))), (9, .int (nI n)), (10, .int owed), (11, .int (nI nd)), (12, .int (nI t)), (13, .int (nI x)), (14, .int (owS n wa ow tt nd k)), (15, .int (nI (unS n wa k))), (16, .int (nI k))] := hl
  have ih_234 := ih
  refine lv_iload hx hb dL_law_234 (lv_at hl 16 rfl) ?_
  refine lv_iload hx hb dL_law_236 (lv_at hl 9 rfl) ?_
  refine nv_icmp_ge (tgt := 742) hx hb dL_law_238 (by omega) (by omega) (by decide) (fun c_238 => ?_) (fun c_238 => ?_)
  · skip
    have ekn : k = n := by omega
    rw [ekn] at hl
    refine lv_aload_n hx hb dL_law_742 rfl (lv_at hl 1 rfl) ?_
    have hP_1 : va_P D vwCl (XW cI a 0 n st ik td nd nh bs ktd knd knh kbs pg kd ag pa bo dm dn hh hn kag kpa kbo kdm kdn khh khn wb ps ty) _ := P_X hP
    refine rdV (As := []) (rest := []) hx hb hml hown hg (c_X2_walk l D cI cB aS _ 0 n st ik td nd nh bs ktd knd knh kbs pg kd ag pa bo dm dn hh hn kag kpa kbo kdm kdn khh khn wb ps ty (by first | assumption | omega)) gm_171 vf_X2_walk ⟨Nat.le_of_ble_eq_true rfl, Nat.le_of_ble_eq_true rfl⟩ ⟨rfl, rfl⟩ hc (RP.preV hK hP_1 (q0 := 0) (ci := 2) XW_g0 rfl) rfl hl.1 rfl (Nat.le_of_ble_eq_true rfl) dL_law_743 ?_
    rw [show ((if n = 0 then -103 else nI (wkF n (nmF kd ag) n)) : Int32) = (nI (wkF n (nwF wa) n)) from ck_walk hzI]
    refine lv_aload_n hx hb dL_law_746 rfl (lv_at hl 2 rfl) ?_
    have hP_2 : va_P D vwCl [(y 0, .inl (cI, 21, .inl wa))] _ := P_s1 hP ZW_g41
    refine rdS (As := [.ref (y 0)]) (rest := [.int (nI (wkF n (nwF wa) n))]) hx hb hml hown hg (c_L_walk l D cI cB aS (y 0) wa n (by first | assumption | omega) (by first | assumption | omega) (by first | assumption | omega)) gm_337 sf_L_walk ⟨Nat.le_of_ble_eq_true rfl, Nat.le_of_ble_eq_true rfl⟩ ⟨rfl, rfl⟩ hc (RP.preS hK hP_2) rfl hl.1 rfl (Nat.le_of_ble_eq_true rfl) dL_law_747 ?_
    refine lv_icmp_ne (tgt := 828) hx hb dL_law_750 (by decide) (fun c_750 => ?_) (fun c_750 => ?_)
    · exact absurd rfl c_750
    · skip
      refine lv_aload_n hx hb dL_law_753 rfl (lv_at hl 1 rfl) ?_
      refine lv_iconst (v := (nI 0)) hx hb dL_law_754 (by decide) ?_
      have hP_3 : va_P D vwCl (XW cI a 0 n st ik td nd nh bs ktd knd knh kbs pg kd ag pa bo dm dn hh hn kag kpa kbo kdm kdn khh khn wb ps ty) _ := P_X hP
      refine rdV (As := [.int (nI 0)]) (rest := []) hx hb hml hown hg (c_X2_count l D cI cB aS _ 0 n st ik td nd nh bs ktd knd knh kbs pg kd ag pa bo dm dn hh hn kag kpa kbo kdm kdn khh khn wb ps ty (nI 0) (by first | assumption | omega) (by first | assumption | omega) (by first | assumption | omega)) gm_220 vf_X2_count ⟨Nat.le_of_ble_eq_true rfl, Nat.le_of_ble_eq_true rfl⟩ ⟨rfl, rfl⟩ hc (RP.preV hK hP_3 (q0 := 0) (ci := 2) XW_g0 rfl) rfl hl.1 rfl (Nat.le_of_ble_eq_true rfl) dL_law_755 ?_
      rw [show ((cntF n td bs kd ag dm dn nd nh 0 st (nI 0)) : Int32) = (nI n) from ck_c0]
      refine lv_iload hx hb dL_law_758 (lv_at hl 9 rfl) ?_
      refine nv_icmp_ne (tgt := 828) hx hb dL_law_760 (by omega) (by omega) (by decide) (fun c_760 => ?_) (fun c_760 => ?_)
      · exact absurd rfl c_760
      · skip
        refine lv_aload_n hx hb dL_law_763 rfl (lv_at hl 1 rfl) ?_
        refine lv_iconst (v := (nI 1)) hx hb dL_law_764 (by decide) ?_
        have hP_4 : va_P D vwCl (XW cI a 0 n st ik td nd nh bs ktd knd knh kbs pg kd ag pa bo dm dn hh hn kag kpa kbo kdm kdn khh khn wb ps ty) _ := P_X hP
        refine rdV (As := [.int (nI 1)]) (rest := []) hx hb hml hown hg (c_X2_count l D cI cB aS _ 0 n st ik td nd nh bs ktd knd knh kbs pg kd ag pa bo dm dn hh hn kag kpa kbo kdm kdn khh khn wb ps ty (nI 1) (by first | assumption | omega) (by first | assumption | omega) (by first | assumption | omega)) gm_220 vf_X2_count ⟨Nat.le_of_ble_eq_true rfl, Nat.le_of_ble_eq_true rfl⟩ ⟨rfl, rfl⟩ hc (RP.preV hK hP_4 (q0 := 0) (ci := 2) XW_g0 rfl) rfl hl.1 rfl (Nat.le_of_ble_eq_true rfl) dL_law_765 ?_
        rw [show ((cntF n td bs kd ag dm dn nd nh 0 st (nI 1)) : Int32) = (nI td) from ck_c1]
        refine lv_aload_n hx hb dL_law_768 rfl (lv_at hl 2 rfl) ?_
        refine lv_iconst (v := (nI 1)) hx hb dL_law_769 (by decide) ?_
        refine nv_iald hx hb hK.1 hP 41 0 ZW_g41 rfl (by omega) (by omega) dL_law_770 ?_
        rw [show ((wa 1) : Int32) = (nI td) from hw1]
        refine nv_icmp_ne (tgt := 828) hx hb dL_law_771 (by omega) (by omega) (by decide) (fun c_771 => ?_) (fun c_771 => ?_)
        · exact absurd rfl c_771
        · skip
          refine lv_aload_n hx hb dL_law_774 rfl (lv_at hl 1 rfl) ?_
          refine lv_iconst (v := (nI 2)) hx hb dL_law_775 (by decide) ?_
          have hP_5 : va_P D vwCl (XW cI a 0 n st ik td nd nh bs ktd knd knh kbs pg kd ag pa bo dm dn hh hn kag kpa kbo kdm kdn khh khn wb ps ty) _ := P_X hP
          refine rdV (As := [.int (nI 2)]) (rest := []) hx hb hml hown hg (c_X2_count l D cI cB aS _ 0 n st ik td nd nh bs ktd knd knh kbs pg kd ag pa bo dm dn hh hn kag kpa kbo kdm kdn khh khn wb ps ty (nI 2) (by first | assumption | omega) (by first | assumption | omega) (by first | assumption | omega)) gm_220 vf_X2_count ⟨Nat.le_of_ble_eq_true rfl, Nat.le_of_ble_eq_true rfl⟩ ⟨rfl, rfl⟩ hc (RP.preV hK hP_5 (q0 := 0) (ci := 2) XW_g0 rfl) rfl hl.1 rfl (Nat.le_of_ble_eq_true rfl) dL_law_776 ?_
          rw [show ((cntF n td bs kd ag dm dn nd nh 0 st (nI 2)) : Int32) = (wa 2) from ck_c2 hzI]
          refine lv_aload_n hx hb dL_law_779 rfl (lv_at hl 2 rfl) ?_
          refine lv_iconst (v := (nI 2)) hx hb dL_law_780 (by decide) ?_
          refine nv_iald hx hb hK.1 hP 41 0 ZW_g41 rfl (by omega) (by omega) dL_law_781 ?_
          refine lv_icmp_ne (tgt := 828) hx hb dL_law_782 (by decide) (fun c_782 => ?_) (fun c_782 => ?_)
          · exact absurd rfl c_782
          · skip
            refine lv_aload_n hx hb dL_law_785 rfl (lv_at hl 1 rfl) ?_
            refine lv_iconst (v := (nI 3)) hx hb dL_law_786 (by decide) ?_
            have hP_6 : va_P D vwCl (XW cI a 0 n st ik td nd nh bs ktd knd knh kbs pg kd ag pa bo dm dn hh hn kag kpa kbo kdm kdn khh khn wb ps ty) _ := P_X hP
            refine rdV (As := [.int (nI 3)]) (rest := []) hx hb hml hown hg (c_X2_count l D cI cB aS _ 0 n st ik td nd nh bs ktd knd knh kbs pg kd ag pa bo dm dn hh hn kag kpa kbo kdm kdn khh khn wb ps ty (nI 3) (by first | assumption | omega) (by first | assumption | omega) (by first | assumption | omega)) gm_220 vf_X2_count ⟨Nat.le_of_ble_eq_true rfl, Nat.le_of_ble_eq_true rfl⟩ ⟨rfl, rfl⟩ hc (RP.preV hK hP_6 (q0 := 0) (ci := 2) XW_g0 rfl) rfl hl.1 rfl (Nat.le_of_ble_eq_true rfl) dL_law_787 ?_
            rw [show ((cntF n td bs kd ag dm dn nd nh 0 st (nI 3)) : Int32) = (sm (nwF wa) n) from ck_c3 hzI]
            refine lv_aload_n hx hb dL_law_790 rfl (lv_at hl 2 rfl) ?_
            have hP_7 : va_P D vwCl [(y 0, .inl (cI, 21, .inl wa))] _ := P_s1 hP ZW_g41
            refine rdS (As := [.ref (y 0)]) (rest := [.int (sm (nwF wa) n)]) hx hb hml hown hg (c_L_numbers l D cI cB aS (y 0) wa n (by first | assumption | omega) (by first | assumption | omega)) gm_340 sf_L_numbers ⟨Nat.le_of_ble_eq_true rfl, Nat.le_of_ble_eq_true rfl⟩ ⟨rfl, rfl⟩ hc (RP.preS hK hP_7) rfl hl.1 rfl (Nat.le_of_ble_eq_true rfl) dL_law_791 ?_
            refine lv_icmp_ne (tgt := 828) hx hb dL_law_794 (by decide) (fun c_794 => ?_) (fun c_794 => ?_)
            · exact absurd rfl c_794
            · skip
              refine lv_aload_n hx hb dL_law_797 rfl (lv_at hl 1 rfl) ?_
              refine lv_iconst (v := (nI 4)) hx hb dL_law_798 (by decide) ?_
              have hP_8 : va_P D vwCl (XW cI a 0 n st ik td nd nh bs ktd knd knh kbs pg kd ag pa bo dm dn hh hn kag kpa kbo kdm kdn khh khn wb ps ty) _ := P_X hP
              refine rdV (As := [.int (nI 4)]) (rest := []) hx hb hml hown hg (c_X2_count l D cI cB aS _ 0 n st ik td nd nh bs ktd knd knh kbs pg kd ag pa bo dm dn hh hn kag kpa kbo kdm kdn khh khn wb ps ty (nI 4) (by first | assumption | omega) (by first | assumption | omega) (by first | assumption | omega)) gm_220 vf_X2_count ⟨Nat.le_of_ble_eq_true rfl, Nat.le_of_ble_eq_true rfl⟩ ⟨rfl, rfl⟩ hc (RP.preV hK hP_8 (q0 := 0) (ci := 2) XW_g0 rfl) rfl hl.1 rfl (Nat.le_of_ble_eq_true rfl) dL_law_799 ?_
              rw [show ((cntF n td bs kd ag dm dn nd nh 0 st (nI 4)) : Int32) = (nI (unF n (nwF wa))) from ck_c4 hzI]
              refine lv_iload hx hb dL_law_802 (lv_at hl 15 rfl) ?_
              refine lv_icmp_ne (tgt := 828) hx hb dL_law_804 (by decide) (fun c_804 => ?_) (fun c_804 => ?_)
              · exact absurd rfl c_804
              · skip
                refine lv_aload_n hx hb dL_law_807 rfl (lv_at hl 1 rfl) ?_
                refine lv_iconst (v := (nI 5)) hx hb dL_law_808 (by decide) ?_
                have hP_9 : va_P D vwCl (XW cI a 0 n st ik td nd nh bs ktd knd knh kbs pg kd ag pa bo dm dn hh hn kag kpa kbo kdm kdn khh khn wb ps ty) _ := P_X hP
                refine rdV (As := [.int (nI 5)]) (rest := []) hx hb hml hown hg (c_X2_count l D cI cB aS _ 0 n st ik td nd nh bs ktd knd knh kbs pg kd ag pa bo dm dn hh hn kag kpa kbo kdm kdn khh khn wb ps ty (nI 5) (by first | assumption | omega) (by first | assumption | omega) (by first | assumption | omega)) gm_220 vf_X2_count ⟨Nat.le_of_ble_eq_true rfl, Nat.le_of_ble_eq_true rfl⟩ ⟨rfl, rfl⟩ hc (RP.preV hK hP_9 (q0 := 0) (ci := 2) XW_g0 rfl) rfl hl.1 rfl (Nat.le_of_ble_eq_true rfl) dL_law_809 ?_
                rw [show ((cntF n td bs kd ag dm dn nd nh 0 st (nI 5)) : Int32) = (nI nd) from ck_c5]
                refine lv_iload hx hb dL_law_812 (lv_at hl 11 rfl) ?_
                refine nv_icmp_ne (tgt := 828) hx hb dL_law_814 (by omega) (by omega) (by decide) (fun c_814 => ?_) (fun c_814 => ?_)
                · exact absurd rfl c_814
                · skip
                  refine lv_aload_n hx hb dL_law_817 rfl (lv_at hl 1 rfl) ?_
                  refine lv_bipush (v := (nI 6)) hx hb dL_law_818 (by decide) ?_
                  have hP_10 : va_P D vwCl (XW cI a 0 n st ik td nd nh bs ktd knd knh kbs pg kd ag pa bo dm dn hh hn kag kpa kbo kdm kdn khh khn wb ps ty) _ := P_X hP
                  refine rdV (As := [.int (nI 6)]) (rest := []) hx hb hml hown hg (c_X2_count l D cI cB aS _ 0 n st ik td nd nh bs ktd knd knh kbs pg kd ag pa bo dm dn hh hn kag kpa kbo kdm kdn khh khn wb ps ty (nI 6) (by first | assumption | omega) (by first | assumption | omega) (by first | assumption | omega)) gm_220 vf_X2_count ⟨Nat.le_of_ble_eq_true rfl, Nat.le_of_ble_eq_true rfl⟩ ⟨rfl, rfl⟩ hc (RP.preV hK hP_10 (q0 := 0) (ci := 2) XW_g0 rfl) rfl hl.1 rfl (Nat.le_of_ble_eq_true rfl) dL_law_820 ?_
                  rw [show ((cntF n td bs kd ag dm dn nd nh 0 st (nI 6)) : Int32) = (owA n (nwF wa) ow tt nd) from ck_c6 hzI hzD]
                  refine lv_iload hx hb dL_law_823 (lv_at hl 14 rfl) ?_
                  refine lv_icmp_eq (tgt := 830) hx hb dL_law_825 (by decide) (fun c_825 => ?_) (fun c_825 => ?_)
                  · skip
                    exact kk _ _ _ (zJ.of hzI hzD how hP hS) (lv_sub hl [0, 1, 2, 3, 4, 5, 6, 7, 8, 9, 10, 11, 12, 13] rfl)
                  · exact absurd rfl c_825
  · skip
    have hk : k < n := by omega
    refine lv_iconst (v := (nI 3)) hx hb dL_law_241 (by decide) ?_
    refine lv_iconst (v := (nI 3)) hx hb dL_law_242 (by decide) ?_
    refine lv_iload hx hb dL_law_243 (lv_at hl 16 rfl) ?_
    refine nv_imul hx hb dL_law_245 ?_
    refine nv_iadd hx hb dL_law_246 ?_
    refine lv_istore (lv' := [(17, .int (nI (3 + (3 * k)))), (0, .ref q), (1, .ref (a 0)), (2, .ref (y 0)), (3, .ref (y 1)), (4, .ref (y 2)), (5, .ref (y 3)), (6, .ref (y 4)), (7, .int (nI trip)), (8, .int (nI (29 * trip))), (9, .int (nI n)), (10, .int owed), (11, .int (nI nd)), (12, .int (nI t)), (13, .int (nI x)), (14, .int (owS n wa ow tt nd k)), (15, .int (nI (unS n wa k))), (16, .int (nI k))]) hx hb dL_law_247 hl (by decide) rfl (fun ls hl => ?_)
    refine lv_iload hx hb dL_law_249 (lv_at hl 14 rfl) ?_
    refine lv_bipush (v := (nI 64)) hx hb dL_law_251 (by decide) ?_
    refine nv_idiv hx hb dL_law_253 (by omega) (by omega) (by omega) ?_
    refine lv_aload_n hx hb dL_law_254 rfl (lv_at hl 3 rfl) ?_
    refine lv_iconst (v := (nI 1)) hx hb dL_law_255 (by decide) ?_
    refine nv_iald hx hb hK.1 hP 41 0 ZW_g41 rfl (by omega) (by omega) dL_law_256 ?_
    rw [show ((wa 1) : Int32) = (nI td) from hw1]
    refine lv_iconst (v := (nI 1)) hx hb dL_law_257 (by decide) ?_
    refine nv_iadd hx hb dL_law_258 ?_
    refine nv_irem hx hb dL_law_259 (by omega) (by omega) (by omega) ?_
    obtain ⟨d, e_d⟩ : ∃ d, d = x / 64 % (td + 1) := ⟨_, rfl⟩
    have hd : d ≤ td := by have := Nat.mod_lt (x / 64) (show 0 < td + 1 by omega); omega
    rw [← e_d]
    refine lv_istore (lv' := [(18, .int (nI d)), (17, .int (nI (3 + (3 * k)))), (0, .ref q), (1, .ref (a 0)), (2, .ref (y 0)), (3, .ref (y 1)), (4, .ref (y 2)), (5, .ref (y 3)), (6, .ref (y 4)), (7, .int (nI trip)), (8, .int (nI (29 * trip))), (9, .int (nI n)), (10, .int owed), (11, .int (nI nd)), (12, .int (nI t)), (13, .int (nI x)), (14, .int (owS n wa ow tt nd k)), (15, .int (nI (unS n wa k))), (16, .int (nI k))]) hx hb dL_law_260 hl (by decide) rfl (fun ls hl => ?_)
    refine lv_iconst (v := (-1)) hx hb dL_law_262 (by decide) ?_
    refine lv_istore (lv' := [(19, .int (-1)), (18, .int (nI d)), (17, .int (nI (3 + (3 * k)))), (0, .ref q), (1, .ref (a 0)), (2, .ref (y 0)), (3, .ref (y 1)), (4, .ref (y 2)), (5, .ref (y 3)), (6, .ref (y 4)), (7, .int (nI trip)), (8, .int (nI (29 * trip))), (9, .int (nI n)), (10, .int owed), (11, .int (nI nd)), (12, .int (nI t)), (13, .int (nI x)), (14, .int (owS n wa ow tt nd k)), (15, .int (nI (unS n wa k))), (16, .int (nI k))]) hx hb dL_law_263 hl (by decide) rfl (fun ls hl => ?_)
    refine lv_iload hx hb dL_law_265 (lv_at hl 12 rfl) ?_
    refine lv_iconst (v := (nI 1)) hx hb dL_law_267 (by decide) ?_
    refine lv_isub hx hb dL_law_268 ?_
    refine lv_istore (lv' := [(20, .int ((nI n) - (nI 1))), (19, .int (-1)), (18, .int (nI d)), (17, .int (nI (3 + (3 * k)))), (0, .ref q), (1, .ref (a 0)), (2, .ref (y 0)), (3, .ref (y 1)), (4, .ref (y 2)), (5, .ref (y 3)), (6, .ref (y 4)), (7, .int (nI trip)), (8, .int (nI (29 * trip))), (9, .int (nI n)), (10, .int owed), (11, .int (nI nd)), (12, .int (nI t)), (13, .int (nI x)), (14, .int (owS n wa ow tt nd k)), (15, .int (nI (unS n wa k))), (16, .int (nI k))]) hx hb dL_law_269 hl (by decide) rfl (fun ls hl => ?_)
    -- loop at 271
    refine loopR (nL := 25) (B := n) (I := fun i => True) (lv := fun i => [(0, .ref q), (1, .ref (a 0)), (2, .ref (y 0)), (3, .ref (y 1)), (4, .ref (y 2)), (5, .ref (y 3)), (6, .ref (y 4)), (7, .int (nI trip)), (8, .int (nI (29 * trip))), (9, .int (nI n)), (10, .int owed), (11, .int (nI nd)), (12, .int (nI t)), (13, .int (nI x)), (14, .int (owS n wa ow tt nd k)), (15, .int (nI (unS n wa k))), (16, .int (nI k)), (17, .int (nI (3 + 3 * k))), (18, .int (nI d)), (19, .int (ff (hwP (nwF wa) (nwF wa k)) (n - i) i)), (20, .int ((nI (n - i)) - (nI 1)))]) 0 (Nat.zero_le _) (trivial) (by show lv_has ls 25 [(0, .ref q), (1, .ref (a 0)), (2, .ref (y 0)), (3, .ref (y 1)), (4, .ref (y 2)), (5, .ref (y 3)), (6, .ref (y 4)), (7, .int (nI trip)), (8, .int (nI (29 * trip))), (9, .int (nI n)), (10, .int owed), (11, .int (nI nd)), (12, .int (nI t)), (13, .int (nI x)), (14, .int (owS n wa ow tt nd k)), (15, .int (nI (unS n wa k))), (16, .int (nI k)), (17, .int (nI (3 + 3 * k))), (18, .int (nI d)), (19, .int (ff (hwP (nwF wa) (nwF wa k)) (n - 0) 0)), (20, .int ((nI (n - 0)) - (nI 1)))]; rw [show (3 + 3 * k) = 3 + (3 * k) from (by first | rfl | (rw [Nat.sub_zero])), show (ff (hwP (nwF wa) (nwF wa k)) (n - 0) 0) = (-1) from (by first | rfl | (rw [Nat.sub_zero])), show ((nI (n - 0)) - (nI 1)) = (nI n) - (nI 1) from (by first | rfl | (rw [Nat.sub_zero]))]; exact lv_sub hl [4, 5, 6, 7, 8, 9, 10, 11, 12, 13, 14, 15, 16, 17, 18, 19, 20, 3, 2, 1, 0] rfl) (fun i ls hj hI hl ih => ?_)
    have hl : lv_has ls 25 [(0, .ref q), (1, .ref (a 0)), (2, .ref (y 0)), (3, .ref (y 1)), (4, .ref (y 2)), (5, .ref (y 3)), (6, .ref (y 4)), (7, .int (nI trip)), (8, .int (nI (29 * trip))), (9, .int (nI n)), (10, .int owed), (11, .int (nI nd)), (12, .int (nI t)), (13, .int (nI x)), (14, .int (owS n wa ow tt nd k)), (15, .int (nI (unS n wa k))), (16, .int (nI k)), (17, .int (nI (3 + 3 * k))), (18, .int (nI d)), (19, .int (ff (hwP (nwF wa) (nwF wa k)) (n - i) i)), (20, .int ((nI (n - i)) - (nI 1)))] := hl
    have ih_271 := ih
    refine lv_iload hx hb dL_law_271 (lv_at hl 20 rfl) ?_
    refine lv_if_lt (tgt := 306) hx hb dL_law_273 (by decide) (fun c_273 => ?_) (fun c_273 => ?_)
    · skip
      have e0 := sub1_neg (by omega) c_273
      have hl9 : ff (hwP (nwF wa) (nwF wa k)) (n - i) i = hwF n (nwF wa) (nwF wa k) := by rw [show i = n by omega, Nat.sub_self]; rfl
      rw [hl9] at hl
      -- join at 323
      have kj_323 : ∀ ls : Array Slot, lv_has ls 25 [(0, .ref q), (1, .ref (a 0)), (2, .ref (y 0)), (3, .ref (y 1)), (4, .ref (y 2)), (5, .ref (y 3)), (6, .ref (y 4)), (7, .int (nI trip)), (8, .int (nI (29 * trip))), (9, .int (nI n)), (10, .int owed), (11, .int (nI nd)), (12, .int (nI t)), (13, .int (nI x)), (14, .int (owS n wa ow tt nd k)), (15, .int (nI (unS n wa (k + 1)))), (16, .int (nI k)), (17, .int (nI (3 + 3 * k))), (18, .int (nI d)), (19, .int (hwF n (nwF wa) (nwF wa k)))] → W p l e room_1 s m args below meth c H locs cells slots Q (F0 m 323 ls []) := by
        intro ls hl
        -- join at 377
        have kj_377 : ∀ ls : Array Slot, lv_has ls 25 [(0, .ref q), (1, .ref (a 0)), (2, .ref (y 0)), (3, .ref (y 1)), (4, .ref (y 2)), (5, .ref (y 3)), (6, .ref (y 4)), (7, .int (nI trip)), (8, .int (nI (29 * trip))), (9, .int (nI n)), (10, .int owed), (11, .int (nI nd)), (12, .int (nI t)), (13, .int (nI x)), (14, .int (owS n wa ow tt nd k)), (15, .int (nI (unS n wa (k + 1)))), (16, .int (nI k)), (17, .int (nI (3 + 3 * k))), (18, .int (nI d)), (19, .int (hwF n (nwF wa) (nwF wa k))), (20, .int (owF n (nwF wa) ow tt nd k))] → W p l e room_1 s m args below meth c H locs cells slots Q (F0 m 377 ls []) := by
          intro ls hl
          refine lv_iload hx hb dL_law_377 (lv_at hl 14 rfl) ?_
          refine lv_iload hx hb dL_law_379 (lv_at hl 20 rfl) ?_
          refine lv_iadd hx hb dL_law_381 ?_
          refine lv_istore (lv' := [(14, .int ((owS n wa ow tt nd k) + (owF n (nwF wa) ow tt nd k))), (0, .ref q), (1, .ref (a 0)), (2, .ref (y 0)), (3, .ref (y 1)), (4, .ref (y 2)), (5, .ref (y 3)), (6, .ref (y 4)), (7, .int (nI trip)), (8, .int (nI (29 * trip))), (9, .int (nI n)), (10, .int owed), (11, .int (nI nd)), (12, .int (nI t)), (13, .int (nI x)), (15, .int (nI (unS n wa (k + 1)))), (16, .int (nI k)), (17, .int (nI (3 + 3 * k))), (18, .int (nI d)), (19, .int (hwF n (nwF wa) (nwF wa k))), (20, .int (owF n (nwF wa) ow tt nd k))]) hx hb dL_law_382 hl (by decide) rfl (fun ls hl => ?_)
          refine lv_aload_n hx hb dL_law_384 rfl (lv_at hl 2 rfl) ?_
          refine lv_iload hx hb dL_law_385 (lv_at hl 16 rfl) ?_
          refine lv_iconst (v := (nI 0)) hx hb dL_law_387 (by decide) ?_
          have hP_11 : va_P D vwCl (XW cI a 0 n st ik td nd nh bs ktd knd knh kbs pg kd ag pa bo dm dn hh hn kag kpa kbo kdm kdn khh khn wb ps ty) _ := P_X hP
          refine rdV (As := [.int (nI k), .int (nI 0)]) (rest := []) hx hb hml hown hg (c_X2_about l D cI cB aS _ 0 n st ik td nd nh bs ktd knd knh kbs pg kd ag pa bo dm dn hh hn kag kpa kbo kdm kdn khh khn wb ps ty (nI k) (nI 0) (by first | assumption | omega) (by first | assumption | omega) (by first | assumption | omega)) gm_88 vf_X2_about ⟨Nat.le_of_ble_eq_true rfl, Nat.le_of_ble_eq_true rfl⟩ ⟨rfl, rfl⟩ hc (RP.preV hK hP_11 (q0 := 0) (ci := 2) XW_g0 rfl) rfl hl.1 rfl (Nat.le_of_ble_eq_true rfl) dL_law_388 ?_
          rw [show ((abtF n kd ag bo dm dn nd (nI k) (nI 0)) : Int32) = (wa (3 + 3 * k)) from ck_0 hzI hk]
          refine lv_aload_n hx hb dL_law_391 rfl (lv_at hl 3 rfl) ?_
          refine lv_iload hx hb dL_law_392 (lv_at hl 17 rfl) ?_
          refine nv_iald hx hb hK.1 hP 41 0 ZW_g41 rfl (by omega) (by omega) dL_law_394 ?_
          refine lv_icmp_ne (tgt := 513) hx hb dL_law_395 (by decide) (fun c_395 => ?_) (fun c_395 => ?_)
          · exact absurd rfl c_395
          · skip
            refine lv_aload_n hx hb dL_law_398 rfl (lv_at hl 2 rfl) ?_
            refine lv_iload hx hb dL_law_399 (lv_at hl 16 rfl) ?_
            refine lv_iconst (v := (nI 1)) hx hb dL_law_401 (by decide) ?_
            have hP_12 : va_P D vwCl (XW cI a 0 n st ik td nd nh bs ktd knd knh kbs pg kd ag pa bo dm dn hh hn kag kpa kbo kdm kdn khh khn wb ps ty) _ := P_X hP
            refine rdV (As := [.int (nI k), .int (nI 1)]) (rest := []) hx hb hml hown hg (c_X2_about l D cI cB aS _ 0 n st ik td nd nh bs ktd knd knh kbs pg kd ag pa bo dm dn hh hn kag kpa kbo kdm kdn khh khn wb ps ty (nI k) (nI 1) (by first | assumption | omega) (by first | assumption | omega) (by first | assumption | omega)) gm_88 vf_X2_about ⟨Nat.le_of_ble_eq_true rfl, Nat.le_of_ble_eq_true rfl⟩ ⟨rfl, rfl⟩ hc (RP.preV hK hP_12 (q0 := 0) (ci := 2) XW_g0 rfl) rfl hl.1 rfl (Nat.le_of_ble_eq_true rfl) dL_law_402 ?_
            rw [show ((abtF n kd ag bo dm dn nd (nI k) (nI 1)) : Int32) = (wa (3 + 3 * k + 1)) from ck_1 hzI hk]
            refine lv_aload_n hx hb dL_law_405 rfl (lv_at hl 3 rfl) ?_
            refine lv_iload hx hb dL_law_406 (lv_at hl 17 rfl) ?_
            refine lv_iconst (v := (nI 1)) hx hb dL_law_408 (by decide) ?_
            refine nv_iadd hx hb dL_law_409 ?_
            refine nv_iald hx hb hK.1 hP 41 0 ZW_g41 rfl (by omega) (by omega) dL_law_410 ?_
            refine lv_icmp_ne (tgt := 513) hx hb dL_law_411 (by decide) (fun c_411 => ?_) (fun c_411 => ?_)
            · exact absurd rfl c_411
            · skip
              refine lv_aload_n hx hb dL_law_414 rfl (lv_at hl 2 rfl) ?_
              refine lv_iload hx hb dL_law_415 (lv_at hl 16 rfl) ?_
              refine lv_iconst (v := (nI 2)) hx hb dL_law_417 (by decide) ?_
              have hP_13 : va_P D vwCl (XW cI a 0 n st ik td nd nh bs ktd knd knh kbs pg kd ag pa bo dm dn hh hn kag kpa kbo kdm kdn khh khn wb ps ty) _ := P_X hP
              refine rdV (As := [.int (nI k), .int (nI 2)]) (rest := []) hx hb hml hown hg (c_X2_about l D cI cB aS _ 0 n st ik td nd nh bs ktd knd knh kbs pg kd ag pa bo dm dn hh hn kag kpa kbo kdm kdn khh khn wb ps ty (nI k) (nI 2) (by first | assumption | omega) (by first | assumption | omega) (by first | assumption | omega)) gm_88 vf_X2_about ⟨Nat.le_of_ble_eq_true rfl, Nat.le_of_ble_eq_true rfl⟩ ⟨rfl, rfl⟩ hc (RP.preV hK hP_13 (q0 := 0) (ci := 2) XW_g0 rfl) rfl hl.1 rfl (Nat.le_of_ble_eq_true rfl) dL_law_418 ?_
              rw [show ((abtF n kd ag bo dm dn nd (nI k) (nI 2)) : Int32) = (nwF wa k) from ck_2 hzI hk]
              refine lv_aload_n hx hb dL_law_421 rfl (lv_at hl 3 rfl) ?_
              refine lv_iload hx hb dL_law_422 (lv_at hl 16 rfl) ?_
              have hP_14 : va_P D vwCl [(y 0, .inl (cI, 21, .inl wa))] _ := P_s1 hP ZW_g41
              refine rdS (As := [.ref (y 0), .int (nI k)]) (rest := [.int (nwF wa k)]) hx hb hml hown hg (c_L_now l D cI cB aS (y 0) wa k (by first | assumption | omega)) gm_318 sf_L_now ⟨Nat.le_of_ble_eq_true rfl, Nat.le_of_ble_eq_true rfl⟩ ⟨rfl, rfl⟩ hc (RP.preS hK hP_14) rfl hl.1 rfl (Nat.le_of_ble_eq_true rfl) dL_law_424 ?_
              refine lv_icmp_ne (tgt := 513) hx hb dL_law_427 (by decide) (fun c_427 => ?_) (fun c_427 => ?_)
              · exact absurd rfl c_427
              · skip
                refine lv_aload_n hx hb dL_law_430 rfl (lv_at hl 2 rfl) ?_
                refine lv_iload hx hb dL_law_431 (lv_at hl 16 rfl) ?_
                refine lv_iconst (v := (nI 3)) hx hb dL_law_433 (by decide) ?_
                have hP_15 : va_P D vwCl (XW cI a 0 n st ik td nd nh bs ktd knd knh kbs pg kd ag pa bo dm dn hh hn kag kpa kbo kdm kdn khh khn wb ps ty) _ := P_X hP
                refine rdV (As := [.int (nI k), .int (nI 3)]) (rest := []) hx hb hml hown hg (c_X2_about l D cI cB aS _ 0 n st ik td nd nh bs ktd knd knh kbs pg kd ag pa bo dm dn hh hn kag kpa kbo kdm kdn khh khn wb ps ty (nI k) (nI 3) (by first | assumption | omega) (by first | assumption | omega) (by first | assumption | omega)) gm_88 vf_X2_about ⟨Nat.le_of_ble_eq_true rfl, Nat.le_of_ble_eq_true rfl⟩ ⟨rfl, rfl⟩ hc (RP.preV hK hP_15 (q0 := 0) (ci := 2) XW_g0 rfl) rfl hl.1 rfl (Nat.le_of_ble_eq_true rfl) dL_law_434 ?_
                rw [show ((abtF n kd ag bo dm dn nd (nI k) (nI 3)) : Int32) = (wa (3 + 3 * k + 2)) from ck_3 hzI hk]
                refine lv_aload_n hx hb dL_law_437 rfl (lv_at hl 3 rfl) ?_
                refine lv_iload hx hb dL_law_438 (lv_at hl 17 rfl) ?_
                refine lv_iconst (v := (nI 2)) hx hb dL_law_440 (by decide) ?_
                refine nv_iadd hx hb dL_law_441 ?_
                refine nv_iald hx hb hK.1 hP 41 0 ZW_g41 rfl (by omega) (by omega) dL_law_442 ?_
                refine lv_icmp_ne (tgt := 513) hx hb dL_law_443 (by decide) (fun c_443 => ?_) (fun c_443 => ?_)
                · exact absurd rfl c_443
                · skip
                  refine lv_aload_n hx hb dL_law_446 rfl (lv_at hl 2 rfl) ?_
                  refine lv_iload hx hb dL_law_447 (lv_at hl 16 rfl) ?_
                  refine lv_iconst (v := (nI 4)) hx hb dL_law_449 (by decide) ?_
                  have hP_16 : va_P D vwCl (XW cI a 0 n st ik td nd nh bs ktd knd knh kbs pg kd ag pa bo dm dn hh hn kag kpa kbo kdm kdn khh khn wb ps ty) _ := P_X hP
                  refine rdV (As := [.int (nI k), .int (nI 4)]) (rest := []) hx hb hml hown hg (c_X2_about l D cI cB aS _ 0 n st ik td nd nh bs ktd knd knh kbs pg kd ag pa bo dm dn hh hn kag kpa kbo kdm kdn khh khn wb ps ty (nI k) (nI 4) (by first | assumption | omega) (by first | assumption | omega) (by first | assumption | omega)) gm_88 vf_X2_about ⟨Nat.le_of_ble_eq_true rfl, Nat.le_of_ble_eq_true rfl⟩ ⟨rfl, rfl⟩ hc (RP.preV hK hP_16 (q0 := 0) (ci := 2) XW_g0 rfl) rfl hl.1 rfl (Nat.le_of_ble_eq_true rfl) dL_law_450 ?_
                  rw [show ((abtF n kd ag bo dm dn nd (nI k) (nI 4)) : Int32) = (owF n (nwF wa) ow tt nd k) from ck_4 hzI hzD hk]
                  refine lv_iload hx hb dL_law_453 (lv_at hl 20 rfl) ?_
                  refine lv_icmp_ne (tgt := 513) hx hb dL_law_455 (by decide) (fun c_455 => ?_) (fun c_455 => ?_)
                  · exact absurd rfl c_455
                  · skip
                    refine lv_aload_n hx hb dL_law_458 rfl (lv_at hl 2 rfl) ?_
                    refine lv_iload hx hb dL_law_459 (lv_at hl 16 rfl) ?_
                    refine lv_iconst (v := (nI 5)) hx hb dL_law_461 (by decide) ?_
                    have hP_17 : va_P D vwCl (XW cI a 0 n st ik td nd nh bs ktd knd knh kbs pg kd ag pa bo dm dn hh hn kag kpa kbo kdm kdn khh khn wb ps ty) _ := P_X hP
                    refine rdV (As := [.int (nI k), .int (nI 5)]) (rest := []) hx hb hml hown hg (c_X2_about l D cI cB aS _ 0 n st ik td nd nh bs ktd knd knh kbs pg kd ag pa bo dm dn hh hn kag kpa kbo kdm kdn khh khn wb ps ty (nI k) (nI 5) (by first | assumption | omega) (by first | assumption | omega) (by first | assumption | omega)) gm_88 vf_X2_about ⟨Nat.le_of_ble_eq_true rfl, Nat.le_of_ble_eq_true rfl⟩ ⟨rfl, rfl⟩ hc (RP.preV hK hP_17 (q0 := 0) (ci := 2) XW_g0 rfl) rfl hl.1 rfl (Nat.le_of_ble_eq_true rfl) dL_law_462 ?_
                    rw [show ((abtF n kd ag bo dm dn nd (nI k) (nI 5)) : Int32) = (nI (ordF n (nwF wa) k)) from ck_5 hzI hk]
                    refine lv_aload_n hx hb dL_law_465 rfl (lv_at hl 3 rfl) ?_
                    refine lv_iload hx hb dL_law_466 (lv_at hl 16 rfl) ?_
                    have hP_18 : va_P D vwCl [(y 0, .inl (cI, 21, .inl wa))] _ := P_s1 hP ZW_g41
                    refine rdS (As := [.ref (y 0), .int (nI k)]) (rest := [.int (nI (ordF n (nwF wa) k))]) hx hb hml hown hg (c_L_order l D cI cB aS (y 0) wa n k (by first | assumption | omega) (by first | assumption | omega) (by first | assumption | omega)) gm_334 sf_L_order ⟨Nat.le_of_ble_eq_true rfl, Nat.le_of_ble_eq_true rfl⟩ ⟨rfl, rfl⟩ hc (RP.preS hK hP_18) rfl hl.1 rfl (Nat.le_of_ble_eq_true rfl) dL_law_468 ?_
                    refine lv_icmp_ne (tgt := 513) hx hb dL_law_471 (by decide) (fun c_471 => ?_) (fun c_471 => ?_)
                    · exact absurd rfl c_471
                    · skip
                      refine lv_aload_n hx hb dL_law_474 rfl (lv_at hl 2 rfl) ?_
                      refine lv_iload hx hb dL_law_475 (lv_at hl 16 rfl) ?_
                      refine lv_iload hx hb dL_law_477 (lv_at hl 18 rfl) ?_
                      have hP_19 : va_P D vwCl (XW cI a 0 n st ik td nd nh bs ktd knd knh kbs pg kd ag pa bo dm dn hh hn kag kpa kbo kdm kdn khh khn wb ps ty) _ := P_X hP
                      refine rdV (As := [.int (nI k), .int (nI d)]) (rest := []) hx hb hml hown hg (c_X2_then l D cI cB aS _ 0 n st ik td nd nh bs ktd knd knh kbs pg kd ag pa bo dm dn hh hn kag kpa kbo kdm kdn khh khn wb ps ty (nI k) (nI d) (by first | assumption | omega) (by first | assumption | omega)) gm_160 vf_X2_then ⟨Nat.le_of_ble_eq_true rfl, Nat.le_of_ble_eq_true rfl⟩ ⟨rfl, rfl⟩ hc (RP.preV hK hP_19 (q0 := 0) (ci := 2) XW_g0 rfl) rfl hl.1 rfl (Nat.le_of_ble_eq_true rfl) dL_law_479 ?_
                      rw [show ((thF n td kd ag pa (nI k) (nI d)) : Int32) = (tnF wa ga td k d) from ck_then hzI hk hd]
                      refine lv_aload_n hx hb dL_law_482 rfl (lv_at hl 3 rfl) ?_
                      refine lv_aload hx hb dL_law_483 (lv_at hl 5 rfl) ?_
                      refine lv_iload hx hb dL_law_485 (lv_at hl 16 rfl) ?_
                      refine lv_iload hx hb dL_law_487 (lv_at hl 18 rfl) ?_
                      have hP_20 : va_P D vwCl [(y 0, .inl (cI, 21, .inl wa)), (y 2, .inl (cB, 30, .inr (.inl ga)))] _ := P_s2 hP ZW_g41 ZW_g43
                      refine rdS (As := [.ref (y 0), .ref (y 2), .int (nI k), .int (nI d)]) (rest := [.int (tnF wa ga td k d)]) hx hb hml hown hg (c_L_then l D cI cB aS (y 0) (y 2) wa ga td k d (by first | assumption | omega) (by first | assumption | omega) (by first | assumption | omega) (by first | assumption | omega)) gm_321 sf_L_then ⟨Nat.le_of_ble_eq_true rfl, Nat.le_of_ble_eq_true rfl⟩ ⟨rfl, rfl⟩ hc (RP.preS hK hP_20) rfl hl.1 rfl (Nat.le_of_ble_eq_true rfl) dL_law_489 ?_
                      refine lv_icmp_ne (tgt := 513) hx hb dL_law_492 (by decide) (fun c_492 => ?_) (fun c_492 => ?_)
                      · exact absurd rfl c_492
                      · skip
                        refine lv_aload_n hx hb dL_law_495 rfl (lv_at hl 2 rfl) ?_
                        refine lv_aload_n hx hb dL_law_496 rfl (lv_at hl 3 rfl) ?_
                        refine lv_iload hx hb dL_law_497 (lv_at hl 16 rfl) ?_
                        have hP_21 : va_P D vwCl [(y 0, .inl (cI, 21, .inl wa))] _ := P_s1 hP ZW_g41
                        refine rdS (As := [.ref (y 0), .int (nI k)]) (rest := [.ref (a 0)]) hx hb hml hown hg (c_L_now l D cI cB aS (y 0) wa k (by first | assumption | omega)) gm_318 sf_L_now ⟨Nat.le_of_ble_eq_true rfl, Nat.le_of_ble_eq_true rfl⟩ ⟨rfl, rfl⟩ hc (RP.preS hK hP_21) rfl hl.1 rfl (Nat.le_of_ble_eq_true rfl) dL_law_499 ?_
                        refine lv_aload_n hx hb dL_law_502 rfl (lv_at hl 3 rfl) ?_
                        refine lv_iconst (v := (nI 1)) hx hb dL_law_503 (by decide) ?_
                        refine nv_iald hx hb hK.1 hP 41 0 ZW_g41 rfl (by omega) (by omega) dL_law_504 ?_
                        rw [show ((wa 1) : Int32) = (nI td) from hw1]
                        have hP_22 : va_P D vwCl (XW cI a 0 n st ik td nd nh bs ktd knd knh kbs pg kd ag pa bo dm dn hh hn kag kpa kbo kdm kdn khh khn wb ps ty) _ := P_X hP
                        refine rdV (As := [.int (nwF wa k), .int (nI td)]) (rest := []) hx hb hml hown hg (c_X2_goesTo l D cI cB aS _ 0 n st ik td nd nh bs ktd knd knh kbs pg kd ag pa bo dm dn hh hn kag kpa kbo kdm kdn khh khn wb ps ty (nwF wa k) (nI td) (by first | assumption | omega) (by first | assumption | omega)) gm_167 vf_X2_goesTo ⟨Nat.le_of_ble_eq_true rfl, Nat.le_of_ble_eq_true rfl⟩ ⟨rfl, rfl⟩ hc (RP.preV hK hP_22 (q0 := 0) (ci := 2) XW_g0 rfl) rfl hl.1 rfl (Nat.le_of_ble_eq_true rfl) dL_law_505 ?_
                        rw [show ((goF n td kd ag pa (nwF wa k) (nI td)) : Int32) = (hwF n (nwF wa) (nwF wa k)) from ck_goesN hzI]
                        refine lv_iload hx hb dL_law_508 (lv_at hl 19 rfl) ?_
                        refine lv_icmp_eq (tgt := 515) hx hb dL_law_510 (by decide) (fun c_510 => ?_) (fun c_510 => ?_)
                        · skip
                          refine lv_iconst (v := (-1)) hx hb dL_law_515 (by decide) ?_
                          refine lv_istore (lv' := [(21, .int (-1)), (14, .int ((owS n wa ow tt nd k) + (owF n (nwF wa) ow tt nd k))), (0, .ref q), (1, .ref (a 0)), (2, .ref (y 0)), (3, .ref (y 1)), (4, .ref (y 2)), (5, .ref (y 3)), (6, .ref (y 4)), (7, .int (nI trip)), (8, .int (nI (29 * trip))), (9, .int (nI n)), (10, .int owed), (11, .int (nI nd)), (12, .int (nI t)), (13, .int (nI x)), (15, .int (nI (unS n wa (k + 1)))), (16, .int (nI k)), (17, .int (nI (3 + 3 * k))), (18, .int (nI d)), (19, .int (hwF n (nwF wa) (nwF wa k))), (20, .int (owF n (nwF wa) ow tt nd k))]) hx hb dL_law_516 hl (by decide) rfl (fun ls hl => ?_)
                          refine lv_iload hx hb dL_law_518 (lv_at hl 11 rfl) ?_
                          refine lv_iconst (v := (nI 1)) hx hb dL_law_520 (by decide) ?_
                          refine lv_isub hx hb dL_law_521 ?_
                          refine lv_istore (lv' := [(22, .int ((nI n) - (nI 1))), (21, .int (-1)), (14, .int ((owS n wa ow tt nd k) + (owF n (nwF wa) ow tt nd k))), (0, .ref q), (1, .ref (a 0)), (2, .ref (y 0)), (3, .ref (y 1)), (4, .ref (y 2)), (5, .ref (y 3)), (6, .ref (y 4)), (7, .int (nI trip)), (8, .int (nI (29 * trip))), (9, .int (nI n)), (10, .int owed), (11, .int (nI nd)), (12, .int (nI t)), (13, .int (nI x)), (15, .int (nI (unS n wa (k + 1)))), (16, .int (nI k)), (17, .int (nI (3 + 3 * k))), (18, .int (nI d)), (19, .int (hwF n (nwF wa) (nwF wa k))), (20, .int (owF n (nwF wa) ow tt nd k))]) hx hb dL_law_522 hl (by decide) rfl (fun ls hl => ?_)
                          -- loop at 524
                          refine loopR (nL := 25) (B := n) (I := fun i => True) (lv := fun i => [(0, .ref q), (1, .ref (a 0)), (2, .ref (y 0)), (3, .ref (y 1)), (4, .ref (y 2)), (5, .ref (y 3)), (6, .ref (y 4)), (7, .int (nI trip)), (8, .int (nI (29 * trip))), (9, .int (nI n)), (10, .int owed), (11, .int (nI nd)), (12, .int (nI t)), (13, .int (nI x)), (14, .int ((owS n wa ow tt nd k) + (owF n (nwF wa) ow tt nd k))), (15, .int (nI (unS n wa (k + 1)))), (16, .int (nI k)), (17, .int (nI (3 + 3 * k))), (18, .int (nI d)), (19, .int (hwF n (nwF wa) (nwF wa k))), (20, .int (owF n (nwF wa) ow tt nd k)), (21, .int (ff (hwP (fun j => tnF wa ga td j d) (nI (x / 4096 % 12))) (n - i) i)), (22, .int ((nI (n - i)) - (nI 1)))]) 0 (Nat.zero_le _) (trivial) (by show lv_has ls 25 [(0, .ref q), (1, .ref (a 0)), (2, .ref (y 0)), (3, .ref (y 1)), (4, .ref (y 2)), (5, .ref (y 3)), (6, .ref (y 4)), (7, .int (nI trip)), (8, .int (nI (29 * trip))), (9, .int (nI n)), (10, .int owed), (11, .int (nI nd)), (12, .int (nI t)), (13, .int (nI x)), (14, .int ((owS n wa ow tt nd k) + (owF n (nwF wa) ow tt nd k))), (15, .int (nI (unS n wa (k + 1)))), (16, .int (nI k)), (17, .int (nI (3 + 3 * k))), (18, .int (nI d)), (19, .int (hwF n (nwF wa) (nwF wa k))), (20, .int (owF n (nwF wa) ow tt nd k)), (21, .int (ff (hwP (fun j => tnF wa ga td j d) (nI (x / 4096 % 12))) (n - 0) 0)), (22, .int ((nI (n - 0)) - (nI 1)))]; rw [show (ff (hwP (fun j => tnF wa ga td j d) (nI (x / 4096 % 12))) (n - 0) 0) = (-1) from (by first | rfl | (rw [Nat.sub_zero])), show ((nI (n - 0)) - (nI 1)) = (nI n) - (nI 1) from (by first | rfl | (rw [Nat.sub_zero]))]; exact lv_sub hl [3, 4, 5, 6, 7, 8, 9, 10, 11, 12, 13, 14, 15, 16, 2, 17, 18, 19, 20, 21, 22, 1, 0] rfl) (fun i ls hj hI hl ih => ?_)
                          have hl : lv_has ls 25 [(0, .ref q), (1, .ref (a 0)), (2, .ref (y 0)), (3, .ref (y 1)), (4, .ref (y 2)), (5, .ref (y 3)), (6, .ref (y 4)), (7, .int (nI trip)), (8, .int (nI (29 * trip))), (9, .int (nI n)), (10, .int owed), (11, .int (nI nd)), (12, .int (nI t)), (13, .int (nI x)), (14, .int ((owS n wa ow tt nd k) + (owF n (nwF wa) ow tt nd k))), (15, .int (nI (unS n wa (k + 1)))), (16, .int (nI k)), (17, .int (nI (3 + 3 * k))), (18, .int (nI d)), (19, .int (hwF n (nwF wa) (nwF wa k))), (20, .int (owF n (nwF wa) ow tt nd k)), (21, .int (ff (hwP (fun j => tnF wa ga td j d) (nI (x / 4096 % 12))) (n - i) i)), (22, .int ((nI (n - i)) - (nI 1)))] := hl
                          have ih_524 := ih
                          refine lv_iload hx hb dL_law_524 (lv_at hl 22 rfl) ?_
                          refine lv_if_lt (tgt := 566) hx hb dL_law_526 (by decide) (fun c_526 => ?_) (fun c_526 => ?_)
                          · skip
                            have e0 := sub1_neg (by omega) c_526
                            have hl9 : ff (hwP (fun j => tnF wa ga td j d) (nI (x / 4096 % 12))) (n - i) i = hwF n (fun j => tnF wa ga td j d) (nI (x / 4096 % 12)) := by rw [show i = n by omega, Nat.sub_self]; rfl
                            rw [hl9] at hl
                            refine lv_aload_n hx hb dL_law_566 rfl (lv_at hl 1 rfl) ?_
                            refine lv_iload hx hb dL_law_567 (lv_at hl 13 rfl) ?_
                            refine lv_sipush (v := (nI 4096)) hx hb dL_law_569 (by decide) ?_
                            refine nv_idiv hx hb dL_law_572 (by omega) (by omega) (by omega) ?_
                            refine lv_bipush (v := (nI 12)) hx hb dL_law_573 (by decide) ?_
                            refine nv_irem hx hb dL_law_575 (by omega) (by omega) (by omega) ?_
                            refine lv_iload hx hb dL_law_576 (lv_at hl 18 rfl) ?_
                            have hP_23 : va_P D vwCl (XW cI a 0 n st ik td nd nh bs ktd knd knh kbs pg kd ag pa bo dm dn hh hn kag kpa kbo kdm kdn khh khn wb ps ty) _ := P_X hP
                            refine rdV (As := [.int (nI ((x / 4096) % 12)), .int (nI d)]) (rest := []) hx hb hml hown hg (c_X2_goesTo l D cI cB aS _ 0 n st ik td nd nh bs ktd knd knh kbs pg kd ag pa bo dm dn hh hn kag kpa kbo kdm kdn khh khn wb ps ty (nI ((x / 4096) % 12)) (nI d) (by first | assumption | omega) (by first | assumption | omega)) gm_167 vf_X2_goesTo ⟨Nat.le_of_ble_eq_true rfl, Nat.le_of_ble_eq_true rfl⟩ ⟨rfl, rfl⟩ hc (RP.preV hK hP_23 (q0 := 0) (ci := 2) XW_g0 rfl) rfl hl.1 rfl (Nat.le_of_ble_eq_true rfl) dL_law_578 ?_
                            rw [show ((goF n td kd ag pa (nI ((x / 4096) % 12)) (nI d)) : Int32) = (hwF n (fun j => tnF wa ga td j d) (nI (x / 4096 % 12))) from ck_goes hzI hd]
                            refine lv_iload hx hb dL_law_581 (lv_at hl 21 rfl) ?_
                            refine lv_icmp_eq (tgt := 588) hx hb dL_law_583 (by decide) (fun c_583 => ?_) (fun c_583 => ?_)
                            · skip
                              refine lv_iconst (v := (nI 0)) hx hb dL_law_588 (by decide) ?_
                              refine lv_istore (lv' := [(22, .int (nI 0)), (0, .ref q), (1, .ref (a 0)), (2, .ref (y 0)), (3, .ref (y 1)), (4, .ref (y 2)), (5, .ref (y 3)), (6, .ref (y 4)), (7, .int (nI trip)), (8, .int (nI (29 * trip))), (9, .int (nI n)), (10, .int owed), (11, .int (nI nd)), (12, .int (nI t)), (13, .int (nI x)), (14, .int ((owS n wa ow tt nd k) + (owF n (nwF wa) ow tt nd k))), (15, .int (nI (unS n wa (k + 1)))), (16, .int (nI k)), (17, .int (nI (3 + 3 * k))), (18, .int (nI d)), (19, .int (hwF n (nwF wa) (nwF wa k))), (20, .int (owF n (nwF wa) ow tt nd k)), (21, .int (hwF n (fun j => tnF wa ga td j d) (nI (x / 4096 % 12))))]) hx hb dL_law_589 hl (by decide) rfl (fun ls hl => ?_)
                              -- loop at 591
                              refine loopR (nL := 25) (B := 5) (I := fun u5 => True) (lv := fun u5 => [(0, .ref q), (1, .ref (a 0)), (2, .ref (y 0)), (3, .ref (y 1)), (4, .ref (y 2)), (5, .ref (y 3)), (6, .ref (y 4)), (7, .int (nI trip)), (8, .int (nI (29 * trip))), (9, .int (nI n)), (10, .int owed), (11, .int (nI nd)), (12, .int (nI t)), (13, .int (nI x)), (14, .int ((owS n wa ow tt nd k) + (owF n (nwF wa) ow tt nd k))), (15, .int (nI (unS n wa (k + 1)))), (16, .int (nI k)), (17, .int (nI (3 + 3 * k))), (18, .int (nI d)), (19, .int (hwF n (nwF wa) (nwF wa k))), (20, .int (owF n (nwF wa) ow tt nd k)), (22, .int (nI u5))]) 0 (Nat.zero_le _) (trivial) (lv_sub hl [1, 2, 3, 4, 5, 6, 7, 8, 9, 10, 11, 12, 13, 14, 15, 16, 17, 18, 19, 20, 21, 0] rfl) (fun u5 ls hj hI hl ih => ?_)
                              have hl : lv_has ls 25 [(0, .ref q), (1, .ref (a 0)), (2, .ref (y 0)), (3, .ref (y 1)), (4, .ref (y 2)), (5, .ref (y 3)), (6, .ref (y 4)), (7, .int (nI trip)), (8, .int (nI (29 * trip))), (9, .int (nI n)), (10, .int owed), (11, .int (nI nd)), (12, .int (nI t)), (13, .int (nI x)), (14, .int ((owS n wa ow tt nd k) + (owF n (nwF wa) ow tt nd k))), (15, .int (nI (unS n wa (k + 1)))), (16, .int (nI k)), (17, .int (nI (3 + 3 * k))), (18, .int (nI d)), (19, .int (hwF n (nwF wa) (nwF wa k))), (20, .int (owF n (nwF wa) ow tt nd k)), (22, .int (nI u5))] := hl
                              have ih_591 := ih
                              refine lv_iload hx hb dL_law_591 (lv_at hl 21 rfl) ?_
                              refine lv_iconst (v := (nI 5)) hx hb dL_law_593 (by decide) ?_
                              refine nv_icmp_ge (tgt := 650) hx hb dL_law_594 (by omega) (by omega) (by decide) (fun c_594 => ?_) (fun c_594 => ?_)
                              · skip
                                refine lv_iload hx hb dL_law_650 (lv_at hl 13 rfl) ?_
                                refine lv_sipush (v := (nI 256)) hx hb dL_law_652 (by decide) ?_
                                refine nv_idiv hx hb dL_law_655 (by omega) (by omega) (by omega) ?_
                                refine lv_bipush (v := (nI 40)) hx hb dL_law_656 (by decide) ?_
                                refine nv_irem hx hb dL_law_658 (by omega) (by omega) (by omega) ?_
                                refine lv_istore (lv' := [(22, .int (nI ((x / 256) % 40))), (0, .ref q), (1, .ref (a 0)), (2, .ref (y 0)), (3, .ref (y 1)), (4, .ref (y 2)), (5, .ref (y 3)), (6, .ref (y 4)), (7, .int (nI trip)), (8, .int (nI (29 * trip))), (9, .int (nI n)), (10, .int owed), (11, .int (nI nd)), (12, .int (nI t)), (13, .int (nI x)), (14, .int ((owS n wa ow tt nd k) + (owF n (nwF wa) ow tt nd k))), (15, .int (nI (unS n wa (k + 1)))), (16, .int (nI k)), (17, .int (nI (3 + 3 * k))), (18, .int (nI d)), (19, .int (hwF n (nwF wa) (nwF wa k))), (20, .int (owF n (nwF wa) ow tt nd k))]) hx hb dL_law_659 hl (by decide) rfl (fun ls hl => ?_)
                                refine lv_iconst (v := (-1)) hx hb dL_law_661 (by decide) ?_
                                refine lv_istore (lv' := [(23, .int (-1)), (22, .int (nI ((x / 256) % 40))), (0, .ref q), (1, .ref (a 0)), (2, .ref (y 0)), (3, .ref (y 1)), (4, .ref (y 2)), (5, .ref (y 3)), (6, .ref (y 4)), (7, .int (nI trip)), (8, .int (nI (29 * trip))), (9, .int (nI n)), (10, .int owed), (11, .int (nI nd)), (12, .int (nI t)), (13, .int (nI x)), (14, .int ((owS n wa ow tt nd k) + (owF n (nwF wa) ow tt nd k))), (15, .int (nI (unS n wa (k + 1)))), (16, .int (nI k)), (17, .int (nI (3 + 3 * k))), (18, .int (nI d)), (19, .int (hwF n (nwF wa) (nwF wa k))), (20, .int (owF n (nwF wa) ow tt nd k))]) hx hb dL_law_662 hl (by decide) rfl (fun ls hl => ?_)
                                refine lv_bipush (v := (nI 99)) hx hb dL_law_664 (by decide) ?_
                                refine lv_istore (lv' := [(24, .int (nI 99)), (23, .int (-1)), (22, .int (nI ((x / 256) % 40))), (0, .ref q), (1, .ref (a 0)), (2, .ref (y 0)), (3, .ref (y 1)), (4, .ref (y 2)), (5, .ref (y 3)), (6, .ref (y 4)), (7, .int (nI trip)), (8, .int (nI (29 * trip))), (9, .int (nI n)), (10, .int owed), (11, .int (nI nd)), (12, .int (nI t)), (13, .int (nI x)), (14, .int ((owS n wa ow tt nd k) + (owF n (nwF wa) ow tt nd k))), (15, .int (nI (unS n wa (k + 1)))), (16, .int (nI k)), (17, .int (nI (3 + 3 * k))), (18, .int (nI d)), (19, .int (hwF n (nwF wa) (nwF wa k))), (20, .int (owF n (nwF wa) ow tt nd k))]) hx hb dL_law_666 hl (by decide) rfl (fun ls hl => ?_)
                                -- loop at 668
                                refine loopR (nL := 25) (B := 100) (I := fun i => True) (lv := fun i => [(0, .ref q), (1, .ref (a 0)), (2, .ref (y 0)), (3, .ref (y 1)), (4, .ref (y 2)), (5, .ref (y 3)), (6, .ref (y 4)), (7, .int (nI trip)), (8, .int (nI (29 * trip))), (9, .int (nI n)), (10, .int owed), (11, .int (nI nd)), (12, .int (nI t)), (13, .int (nI x)), (14, .int ((owS n wa ow tt nd k) + (owF n (nwF wa) ow tt nd k))), (15, .int (nI (unS n wa (k + 1)))), (16, .int (nI k)), (17, .int (nI (3 + 3 * k))), (18, .int (nI d)), (19, .int (hwF n (nwF wa) (nwF wa k))), (20, .int (owF n (nwF wa) ow tt nd k)), (22, .int (nI (x / 256 % 40))), (23, .int (ff (whW wa k (nI (x / 256 % 40))) (100 - i) i)), (24, .int ((nI (100 - i)) - (nI 1)))]) 0 (Nat.zero_le _) (trivial) (by show lv_has ls 25 [(0, .ref q), (1, .ref (a 0)), (2, .ref (y 0)), (3, .ref (y 1)), (4, .ref (y 2)), (5, .ref (y 3)), (6, .ref (y 4)), (7, .int (nI trip)), (8, .int (nI (29 * trip))), (9, .int (nI n)), (10, .int owed), (11, .int (nI nd)), (12, .int (nI t)), (13, .int (nI x)), (14, .int ((owS n wa ow tt nd k) + (owF n (nwF wa) ow tt nd k))), (15, .int (nI (unS n wa (k + 1)))), (16, .int (nI k)), (17, .int (nI (3 + 3 * k))), (18, .int (nI d)), (19, .int (hwF n (nwF wa) (nwF wa k))), (20, .int (owF n (nwF wa) ow tt nd k)), (22, .int (nI (x / 256 % 40))), (23, .int (ff (whW wa k (nI (x / 256 % 40))) (100 - 0) 0)), (24, .int ((nI (100 - 0)) - (nI 1)))]; rw [show (x / 256 % 40) = (x / 256) % 40 from (by first | rfl | decide), show (ff (whW wa k (nI (x / 256 % 40))) (100 - 0) 0) = (-1) from (by first | rfl | decide), show (((nI (100 - 0)) - (nI 1))) = (nI 99) from (by first | rfl | decide)]; exact lv_sub hl [3, 4, 5, 6, 7, 8, 9, 10, 11, 12, 13, 14, 15, 16, 17, 18, 19, 20, 21, 22, 23, 2, 1, 0] rfl) (fun i ls hj hI hl ih => ?_)
                                have hl : lv_has ls 25 [(0, .ref q), (1, .ref (a 0)), (2, .ref (y 0)), (3, .ref (y 1)), (4, .ref (y 2)), (5, .ref (y 3)), (6, .ref (y 4)), (7, .int (nI trip)), (8, .int (nI (29 * trip))), (9, .int (nI n)), (10, .int owed), (11, .int (nI nd)), (12, .int (nI t)), (13, .int (nI x)), (14, .int ((owS n wa ow tt nd k) + (owF n (nwF wa) ow tt nd k))), (15, .int (nI (unS n wa (k + 1)))), (16, .int (nI k)), (17, .int (nI (3 + 3 * k))), (18, .int (nI d)), (19, .int (hwF n (nwF wa) (nwF wa k))), (20, .int (owF n (nwF wa) ow tt nd k)), (22, .int (nI (x / 256 % 40))), (23, .int (ff (whW wa k (nI (x / 256 % 40))) (100 - i) i)), (24, .int ((nI (100 - i)) - (nI 1)))] := hl
                                have ih_668 := ih
                                refine lv_iload hx hb dL_law_668 (lv_at hl 23 rfl) ?_
                                refine lv_if_lt (tgt := 721) hx hb dL_law_670 (by decide) (fun c_670 => ?_) (fun c_670 => ?_)
                                · skip
                                  have e0 := sub1_neg (by omega) c_670
                                  have hl9 : ff (whW wa k (nI (x / 256 % 40))) (100 - i) i = ff (whW wa k (nI (x / 256 % 40))) 0 100 := by rw [show i = 100 by omega]
                                  rw [hl9] at hl
                                  refine lv_aload_n hx hb dL_law_721 rfl (lv_at hl 1 rfl) ?_
                                  refine lv_iload hx hb dL_law_722 (lv_at hl 16 rfl) ?_
                                  refine lv_iload hx hb dL_law_724 (lv_at hl 21 rfl) ?_
                                  have hP_24 : va_P D vwCl (XW cI a 0 n st ik td nd nh bs ktd knd knh kbs pg kd ag pa bo dm dn hh hn kag kpa kbo kdm kdn khh khn wb ps ty) _ := P_X hP
                                  refine rdV (As := [.int (nI k), .int (nI (x / 256 % 40))]) (rest := []) hx hb hml hown hg (c_X2_when l D cI cB aS _ 0 n st ik td nd nh bs ktd knd knh kbs pg kd ag pa bo dm dn hh hn kag kpa kbo kdm kdn khh khn wb ps ty (nI k) (nI (x / 256 % 40)) (by first | assumption | omega)) gm_192 vf_X2_when ⟨Nat.le_of_ble_eq_true rfl, Nat.le_of_ble_eq_true rfl⟩ ⟨rfl, rfl⟩ hc (RP.preV hK hP_24 (q0 := 0) (ci := 2) XW_g0 rfl) rfl hl.1 rfl (Nat.le_of_ble_eq_true rfl) dL_law_726 ?_
                                  rw [show ((whnF n kd ag (nI k) (nI (x / 256 % 40))) : Int32) = (ff (whW wa k (nI (x / 256 % 40))) 0 100) from ck_when hzI hk]
                                  refine lv_iload hx hb dL_law_729 (lv_at hl 22 rfl) ?_
                                  refine lv_icmp_eq (tgt := 736) hx hb dL_law_731 (by decide) (fun c_731 => ?_) (fun c_731 => ?_)
                                  · skip
                                    refine lv_iinc (v := (nI (k + 1))) (lv' := [(16, .int (nI (k + 1))), (0, .ref q), (1, .ref (a 0)), (2, .ref (y 0)), (3, .ref (y 1)), (4, .ref (y 2)), (5, .ref (y 3)), (6, .ref (y 4)), (7, .int (nI trip)), (8, .int (nI (29 * trip))), (9, .int (nI n)), (10, .int owed), (11, .int (nI nd)), (12, .int (nI t)), (13, .int (nI x)), (14, .int ((owS n wa ow tt nd k) + (owF n (nwF wa) ow tt nd k))), (15, .int (nI (unS n wa (k + 1)))), (17, .int (nI (3 + 3 * k))), (18, .int (nI d)), (19, .int (hwF n (nwF wa) (nwF wa k))), (20, .int (owF n (nwF wa) ow tt nd k)), (22, .int (nI (x / 256 % 40))), (23, .int (ff (whW wa k (nI (x / 256 % 40))) 0 100)), (24, .int ((nI (100 - i)) - (nI 1)))]) hx hb dL_law_736 hl (k := 16) rfl (nI_i1 _) (by decide) rfl (fun ls hl => ?_)
                                    refine lv_goto (tgt := 234) hx hb dL_law_739 (by decide) ?_
                                    exact ih_234 _ (by omega) (trivial) (by show lv_has ls 25 [(0, .ref q), (1, .ref (a 0)), (2, .ref (y 0)), (3, .ref (y 1)), (4, .ref (y 2)), (5, .ref (y 3)), (6, .ref (y 4)), (7, .int (nI trip)), (8, .int (nI (29 * trip))), (9, .int (nI n)), (10, .int owed), (11, .int (nI nd)), (12, .int (nI t)), (13, .int (nI x)), (14, .int (owS n wa ow tt nd (k + 1))), (15, .int (nI (unS n wa (k + 1)))), (16, .int (nI (k + 1)))]; rw [show (owS n wa ow tt nd (k + 1)) = (owS n wa ow tt nd k) + (owF n (nwF wa) ow tt nd k) from rfl]; exact lv_sub hl [1, 2, 3, 4, 5, 6, 7, 8, 9, 10, 11, 12, 13, 14, 15, 16, 0] rfl)
                                  · exact absurd rfl c_731
                                · skip
                                  obtain ⟨j, ek⟩ := sub1_pos (by omega) c_670
                                  rw [show (nI (100 - i)) - (nI 1) = nI j from by rw [ek]; exact sub1_s j] at hl
                                  refine lv_aload_n hx hb dL_law_673 rfl (lv_at hl 2 rfl) ?_
                                  refine lv_iload hx hb dL_law_674 (lv_at hl 17 rfl) ?_
                                  refine nv_iald hx hb hK.1 hP 41 0 ZW_g41 rfl (by omega) (by omega) dL_law_676 ?_
                                  refine lv_aload_n hx hb dL_law_677 rfl (lv_at hl 2 rfl) ?_
                                  refine lv_iload hx hb dL_law_678 (lv_at hl 17 rfl) ?_
                                  refine lv_iconst (v := (nI 1)) hx hb dL_law_680 (by decide) ?_
                                  refine nv_iadd hx hb dL_law_681 ?_
                                  refine nv_iald hx hb hK.1 hP 41 0 ZW_g41 rfl (by omega) (by omega) dL_law_682 ?_
                                  refine lv_aload_n hx hb dL_law_683 rfl (lv_at hl 2 rfl) ?_
                                  refine lv_iload hx hb dL_law_684 (lv_at hl 17 rfl) ?_
                                  refine nv_iald hx hb hK.1 hP 41 0 ZW_g41 rfl (by omega) (by omega) dL_law_686 ?_
                                  refine lv_iconst (v := (nI 4)) hx hb dL_law_687 (by decide) ?_
                                  refine lv_icmp_ne (tgt := 695) hx hb dL_law_688 (by decide) (fun c_688 => ?_) (fun c_688 => ?_)
                                  · skip
                                    refine lv_iload hx hb dL_law_695 (lv_at hl 23 rfl) ?_
                                    refine lv_iadd hx hb dL_law_697 ?_
                                    refine rdS (As := [.int (wa (3 + 3 * k)), .int ((wa (3 + 3 * k + 1)) + (nI j))]) (rest := []) hx hb hml hown hg (c_L_number l D cI cB aS (wa (3 + 3 * k)) ((wa (3 + 3 * k + 1)) + (nI j))) gm_315 sf_L_number ⟨Nat.le_of_ble_eq_true rfl, Nat.le_of_ble_eq_true rfl⟩ ⟨rfl, rfl⟩ hc (RP.preS hK (fun k q h => by simp at h)) rfl hl.1 rfl (Nat.le_of_ble_eq_true rfl) dL_law_698 ?_
                                    refine lv_iload hx hb dL_law_701 (lv_at hl 21 rfl) ?_
                                    refine lv_icmp_ne (tgt := 711) hx hb dL_law_703 (by decide) (fun c_703 => ?_) (fun c_703 => ?_)
                                    · skip
                                      refine lv_iload hx hb dL_law_711 (lv_at hl 22 rfl) ?_
                                      refine lv_istore (lv' := [(23, .int (ff (whW wa k (nI (x / 256 % 40))) (100 - i) i)), (0, .ref q), (1, .ref (a 0)), (2, .ref (y 0)), (3, .ref (y 1)), (4, .ref (y 2)), (5, .ref (y 3)), (6, .ref (y 4)), (7, .int (nI trip)), (8, .int (nI (29 * trip))), (9, .int (nI n)), (10, .int owed), (11, .int (nI nd)), (12, .int (nI t)), (13, .int (nI x)), (14, .int ((owS n wa ow tt nd k) + (owF n (nwF wa) ow tt nd k))), (15, .int (nI (unS n wa (k + 1)))), (16, .int (nI k)), (17, .int (nI (3 + 3 * k))), (18, .int (nI d)), (19, .int (hwF n (nwF wa) (nwF wa k))), (20, .int (owF n (nwF wa) ow tt nd k)), (22, .int (nI (x / 256 % 40))), (24, .int (nI j))]) hx hb dL_law_713 hl (by decide) rfl (fun ls hl => ?_)
                                      refine lv_iinc (v := ((nI j) + Int32.ofInt (-1))) (lv' := [(24, .int ((nI j) + Int32.ofInt (-1))), (23, .int (ff (whW wa k (nI (x / 256 % 40))) (100 - i) i)), (0, .ref q), (1, .ref (a 0)), (2, .ref (y 0)), (3, .ref (y 1)), (4, .ref (y 2)), (5, .ref (y 3)), (6, .ref (y 4)), (7, .int (nI trip)), (8, .int (nI (29 * trip))), (9, .int (nI n)), (10, .int owed), (11, .int (nI nd)), (12, .int (nI t)), (13, .int (nI x)), (14, .int ((owS n wa ow tt nd k) + (owF n (nwF wa) ow tt nd k))), (15, .int (nI (unS n wa (k + 1)))), (16, .int (nI k)), (17, .int (nI (3 + 3 * k))), (18, .int (nI d)), (19, .int (hwF n (nwF wa) (nwF wa k))), (20, .int (owF n (nwF wa) ow tt nd k)), (22, .int (nI (x / 256 % 40)))]) hx hb dL_law_715 hl (k := 23) rfl rfl (by decide) rfl (fun ls hl => ?_)
                                      refine lv_goto (tgt := 668) hx hb dL_law_718 (by decide) ?_
                                      exact ih_668 _ (by omega) (trivial) (by show lv_has ls 25 [(0, .ref q), (1, .ref (a 0)), (2, .ref (y 0)), (3, .ref (y 1)), (4, .ref (y 2)), (5, .ref (y 3)), (6, .ref (y 4)), (7, .int (nI trip)), (8, .int (nI (29 * trip))), (9, .int (nI n)), (10, .int owed), (11, .int (nI nd)), (12, .int (nI t)), (13, .int (nI x)), (14, .int ((owS n wa ow tt nd k) + (owF n (nwF wa) ow tt nd k))), (15, .int (nI (unS n wa (k + 1)))), (16, .int (nI k)), (17, .int (nI (3 + 3 * k))), (18, .int (nI d)), (19, .int (hwF n (nwF wa) (nwF wa k))), (20, .int (owF n (nwF wa) ow tt nd k)), (22, .int (nI (x / 256 % 40))), (23, .int (ff (whW wa k (nI (x / 256 % 40))) (100 - (i + 1)) (i + 1))), (24, .int ((nI (100 - (i + 1))) - (nI 1)))]; rw [show (ff (whW wa k (nI (x / 256 % 40))) (100 - (i + 1)) (i + 1)) = ff (whW wa k (nI (x / 256 % 40))) (100 - i) i from (fd1 ek (fun q => by rw [wh_1 c_688] at q; exact c_703 (of_decide_eq_true q))), show ((nI (100 - (i + 1))) - (nI 1)) = (nI j) + Int32.ofInt (-1) from (by rw [show 100 - (i + 1) = j by omega]; exact (dec_eq j).symm)]; exact lv_sub hl [2, 3, 4, 5, 6, 7, 8, 9, 10, 11, 12, 13, 14, 15, 16, 17, 18, 19, 20, 21, 22, 23, 1, 0] rfl)
                                    · skip
                                      refine lv_iload hx hb dL_law_706 (lv_at hl 23 rfl) ?_
                                      refine lv_goto (tgt := 713) hx hb dL_law_708 (by decide) ?_
                                      refine lv_istore (lv' := [(23, .int (nI j)), (0, .ref q), (1, .ref (a 0)), (2, .ref (y 0)), (3, .ref (y 1)), (4, .ref (y 2)), (5, .ref (y 3)), (6, .ref (y 4)), (7, .int (nI trip)), (8, .int (nI (29 * trip))), (9, .int (nI n)), (10, .int owed), (11, .int (nI nd)), (12, .int (nI t)), (13, .int (nI x)), (14, .int ((owS n wa ow tt nd k) + (owF n (nwF wa) ow tt nd k))), (15, .int (nI (unS n wa (k + 1)))), (16, .int (nI k)), (17, .int (nI (3 + 3 * k))), (18, .int (nI d)), (19, .int (hwF n (nwF wa) (nwF wa k))), (20, .int (owF n (nwF wa) ow tt nd k)), (22, .int (nI (x / 256 % 40))), (24, .int (nI j))]) hx hb dL_law_713 hl (by decide) rfl (fun ls hl => ?_)
                                      refine lv_iinc (v := ((nI j) + Int32.ofInt (-1))) (lv' := [(24, .int ((nI j) + Int32.ofInt (-1))), (23, .int (nI j)), (0, .ref q), (1, .ref (a 0)), (2, .ref (y 0)), (3, .ref (y 1)), (4, .ref (y 2)), (5, .ref (y 3)), (6, .ref (y 4)), (7, .int (nI trip)), (8, .int (nI (29 * trip))), (9, .int (nI n)), (10, .int owed), (11, .int (nI nd)), (12, .int (nI t)), (13, .int (nI x)), (14, .int ((owS n wa ow tt nd k) + (owF n (nwF wa) ow tt nd k))), (15, .int (nI (unS n wa (k + 1)))), (16, .int (nI k)), (17, .int (nI (3 + 3 * k))), (18, .int (nI d)), (19, .int (hwF n (nwF wa) (nwF wa k))), (20, .int (owF n (nwF wa) ow tt nd k)), (22, .int (nI (x / 256 % 40)))]) hx hb dL_law_715 hl (k := 23) rfl rfl (by decide) rfl (fun ls hl => ?_)
                                      refine lv_goto (tgt := 668) hx hb dL_law_718 (by decide) ?_
                                      exact ih_668 _ (by omega) (trivial) (by show lv_has ls 25 [(0, .ref q), (1, .ref (a 0)), (2, .ref (y 0)), (3, .ref (y 1)), (4, .ref (y 2)), (5, .ref (y 3)), (6, .ref (y 4)), (7, .int (nI trip)), (8, .int (nI (29 * trip))), (9, .int (nI n)), (10, .int owed), (11, .int (nI nd)), (12, .int (nI t)), (13, .int (nI x)), (14, .int ((owS n wa ow tt nd k) + (owF n (nwF wa) ow tt nd k))), (15, .int (nI (unS n wa (k + 1)))), (16, .int (nI k)), (17, .int (nI (3 + 3 * k))), (18, .int (nI d)), (19, .int (hwF n (nwF wa) (nwF wa k))), (20, .int (owF n (nwF wa) ow tt nd k)), (22, .int (nI (x / 256 % 40))), (23, .int (ff (whW wa k (nI (x / 256 % 40))) (100 - (i + 1)) (i + 1))), (24, .int ((nI (100 - (i + 1))) - (nI 1)))]; rw [show ((ff (whW wa k (nI (x / 256 % 40))) (100 - (i + 1)) (i + 1))) = (nI j) from (fd2 ek (by rw [wh_1 c_688]; exact decide_eq_true c_703)), show ((nI (100 - (i + 1))) - (nI 1)) = (nI j) + Int32.ofInt (-1) from (by rw [show 100 - (i + 1) = j by omega]; exact (dec_eq j).symm)]; exact lv_sub hl [2, 3, 4, 5, 6, 7, 8, 9, 10, 11, 12, 13, 14, 15, 16, 17, 18, 19, 20, 21, 22, 23, 1, 0] rfl)
                                  · skip
                                    refine lv_iconst (v := (nI 0)) hx hb dL_law_691 (by decide) ?_
                                    refine lv_goto (tgt := 697) hx hb dL_law_692 (by decide) ?_
                                    refine lv_iadd hx hb dL_law_697 ?_
                                    refine rdS (As := [.int (wa (3 + 3 * k)), .int ((wa (3 + 3 * k + 1)) + (nI 0))]) (rest := []) hx hb hml hown hg (c_L_number l D cI cB aS (wa (3 + 3 * k)) ((wa (3 + 3 * k + 1)) + (nI 0))) gm_315 sf_L_number ⟨Nat.le_of_ble_eq_true rfl, Nat.le_of_ble_eq_true rfl⟩ ⟨rfl, rfl⟩ hc (RP.preS hK (fun k q h => by simp at h)) rfl hl.1 rfl (Nat.le_of_ble_eq_true rfl) dL_law_698 ?_
                                    refine lv_iload hx hb dL_law_701 (lv_at hl 21 rfl) ?_
                                    refine lv_icmp_ne (tgt := 711) hx hb dL_law_703 (by decide) (fun c_703 => ?_) (fun c_703 => ?_)
                                    · skip
                                      refine lv_iload hx hb dL_law_711 (lv_at hl 22 rfl) ?_
                                      refine lv_istore (lv' := [(23, .int (ff (whW wa k (nI (x / 256 % 40))) (100 - i) i)), (0, .ref q), (1, .ref (a 0)), (2, .ref (y 0)), (3, .ref (y 1)), (4, .ref (y 2)), (5, .ref (y 3)), (6, .ref (y 4)), (7, .int (nI trip)), (8, .int (nI (29 * trip))), (9, .int (nI n)), (10, .int owed), (11, .int (nI nd)), (12, .int (nI t)), (13, .int (nI x)), (14, .int ((owS n wa ow tt nd k) + (owF n (nwF wa) ow tt nd k))), (15, .int (nI (unS n wa (k + 1)))), (16, .int (nI k)), (17, .int (nI (3 + 3 * k))), (18, .int (nI d)), (19, .int (hwF n (nwF wa) (nwF wa k))), (20, .int (owF n (nwF wa) ow tt nd k)), (22, .int (nI (x / 256 % 40))), (24, .int (nI j))]) hx hb dL_law_713 hl (by decide) rfl (fun ls hl => ?_)
                                      refine lv_iinc (v := ((nI j) + Int32.ofInt (-1))) (lv' := [(24, .int ((nI j) + Int32.ofInt (-1))), (23, .int (ff (whW wa k (nI (x / 256 % 40))) (100 - i) i)), (0, .ref q), (1, .ref (a 0)), (2, .ref (y 0)), (3, .ref (y 1)), (4, .ref (y 2)), (5, .ref (y 3)), (6, .ref (y 4)), (7, .int (nI trip)), (8, .int (nI (29 * trip))), (9, .int (nI n)), (10, .int owed), (11, .int (nI nd)), (12, .int (nI t)), (13, .int (nI x)), (14, .int ((owS n wa ow tt nd k) + (owF n (nwF wa) ow tt nd k))), (15, .int (nI (unS n wa (k + 1)))), (16, .int (nI k)), (17, .int (nI (3 + 3 * k))), (18, .int (nI d)), (19, .int (hwF n (nwF wa) (nwF wa k))), (20, .int (owF n (nwF wa) ow tt nd k)), (22, .int (nI (x / 256 % 40)))]) hx hb dL_law_715 hl (k := 23) rfl rfl (by decide) rfl (fun ls hl => ?_)
                                      refine lv_goto (tgt := 668) hx hb dL_law_718 (by decide) ?_
                                      exact ih_668 _ (by omega) (trivial) (by show lv_has ls 25 [(0, .ref q), (1, .ref (a 0)), (2, .ref (y 0)), (3, .ref (y 1)), (4, .ref (y 2)), (5, .ref (y 3)), (6, .ref (y 4)), (7, .int (nI trip)), (8, .int (nI (29 * trip))), (9, .int (nI n)), (10, .int owed), (11, .int (nI nd)), (12, .int (nI t)), (13, .int (nI x)), (14, .int ((owS n wa ow tt nd k) + (owF n (nwF wa) ow tt nd k))), (15, .int (nI (unS n wa (k + 1)))), (16, .int (nI k)), (17, .int (nI (3 + 3 * k))), (18, .int (nI d)), (19, .int (hwF n (nwF wa) (nwF wa k))), (20, .int (owF n (nwF wa) ow tt nd k)), (22, .int (nI (x / 256 % 40))), (23, .int (ff (whW wa k (nI (x / 256 % 40))) (100 - (i + 1)) (i + 1))), (24, .int ((nI (100 - (i + 1))) - (nI 1)))]; rw [show (ff (whW wa k (nI (x / 256 % 40))) (100 - (i + 1)) (i + 1)) = ff (whW wa k (nI (x / 256 % 40))) (100 - i) i from (fd1 ek (fun q => by rw [wh_2 c_688] at q; exact c_703 (of_decide_eq_true q))), show ((nI (100 - (i + 1))) - (nI 1)) = (nI j) + Int32.ofInt (-1) from (by rw [show 100 - (i + 1) = j by omega]; exact (dec_eq j).symm)]; exact lv_sub hl [2, 3, 4, 5, 6, 7, 8, 9, 10, 11, 12, 13, 14, 15, 16, 17, 18, 19, 20, 21, 22, 23, 1, 0] rfl)
                                    · skip
                                      refine lv_iload hx hb dL_law_706 (lv_at hl 23 rfl) ?_
                                      refine lv_goto (tgt := 713) hx hb dL_law_708 (by decide) ?_
                                      refine lv_istore (lv' := [(23, .int (nI j)), (0, .ref q), (1, .ref (a 0)), (2, .ref (y 0)), (3, .ref (y 1)), (4, .ref (y 2)), (5, .ref (y 3)), (6, .ref (y 4)), (7, .int (nI trip)), (8, .int (nI (29 * trip))), (9, .int (nI n)), (10, .int owed), (11, .int (nI nd)), (12, .int (nI t)), (13, .int (nI x)), (14, .int ((owS n wa ow tt nd k) + (owF n (nwF wa) ow tt nd k))), (15, .int (nI (unS n wa (k + 1)))), (16, .int (nI k)), (17, .int (nI (3 + 3 * k))), (18, .int (nI d)), (19, .int (hwF n (nwF wa) (nwF wa k))), (20, .int (owF n (nwF wa) ow tt nd k)), (22, .int (nI (x / 256 % 40))), (24, .int (nI j))]) hx hb dL_law_713 hl (by decide) rfl (fun ls hl => ?_)
                                      refine lv_iinc (v := ((nI j) + Int32.ofInt (-1))) (lv' := [(24, .int ((nI j) + Int32.ofInt (-1))), (23, .int (nI j)), (0, .ref q), (1, .ref (a 0)), (2, .ref (y 0)), (3, .ref (y 1)), (4, .ref (y 2)), (5, .ref (y 3)), (6, .ref (y 4)), (7, .int (nI trip)), (8, .int (nI (29 * trip))), (9, .int (nI n)), (10, .int owed), (11, .int (nI nd)), (12, .int (nI t)), (13, .int (nI x)), (14, .int ((owS n wa ow tt nd k) + (owF n (nwF wa) ow tt nd k))), (15, .int (nI (unS n wa (k + 1)))), (16, .int (nI k)), (17, .int (nI (3 + 3 * k))), (18, .int (nI d)), (19, .int (hwF n (nwF wa) (nwF wa k))), (20, .int (owF n (nwF wa) ow tt nd k)), (22, .int (nI (x / 256 % 40)))]) hx hb dL_law_715 hl (k := 23) rfl rfl (by decide) rfl (fun ls hl => ?_)
                                      refine lv_goto (tgt := 668) hx hb dL_law_718 (by decide) ?_
                                      exact ih_668 _ (by omega) (trivial) (by show lv_has ls 25 [(0, .ref q), (1, .ref (a 0)), (2, .ref (y 0)), (3, .ref (y 1)), (4, .ref (y 2)), (5, .ref (y 3)), (6, .ref (y 4)), (7, .int (nI trip)), (8, .int (nI (29 * trip))), (9, .int (nI n)), (10, .int owed), (11, .int (nI nd)), (12, .int (nI t)), (13, .int (nI x)), (14, .int ((owS n wa ow tt nd k) + (owF n (nwF wa) ow tt nd k))), (15, .int (nI (unS n wa (k + 1)))), (16, .int (nI k)), (17, .int (nI (3 + 3 * k))), (18, .int (nI d)), (19, .int (hwF n (nwF wa) (nwF wa k))), (20, .int (owF n (nwF wa) ow tt nd k)), (22, .int (nI (x / 256 % 40))), (23, .int (ff (whW wa k (nI (x / 256 % 40))) (100 - (i + 1)) (i + 1))), (24, .int ((nI (100 - (i + 1))) - (nI 1)))]; rw [show ((ff (whW wa k (nI (x / 256 % 40))) (100 - (i + 1)) (i + 1))) = (nI j) from (fd2 ek (by rw [wh_2 c_688]; exact decide_eq_true c_703)), show ((nI (100 - (i + 1))) - (nI 1)) = (nI j) + Int32.ofInt (-1) from (by rw [show 100 - (i + 1) = j by omega]; exact (dec_eq j).symm)]; exact lv_sub hl [2, 3, 4, 5, 6, 7, 8, 9, 10, 11, 12, 13, 14, 15, 16, 17, 18, 19, 20, 21, 22, 23, 1, 0] rfl)
                              · skip
                                refine lv_aload_n hx hb dL_law_597 rfl (lv_at hl 1 rfl) ?_
                                refine lv_iload hx hb dL_law_598 (lv_at hl 16 rfl) ?_
                                refine lv_iload hx hb dL_law_600 (lv_at hl 21 rfl) ?_
                                have hP_25 : va_P D vwCl (XW cI a 0 n st ik td nd nh bs ktd knd knh kbs pg kd ag pa bo dm dn hh hn kag kpa kbo kdm kdn khh khn wb ps ty) _ := P_X hP
                                refine rdV (As := [.int (nI k), .int (nI u5)]) (rest := []) hx hb hml hown hg (c_X2_as l D cI cB aS _ 0 n st ik td nd nh bs ktd knd knh kbs pg kd ag pa bo dm dn hh hn kag kpa kbo kdm kdn khh khn wb ps ty (nI k) (nI u5) (by first | assumption | omega)) gm_123 vf_X2_as ⟨Nat.le_of_ble_eq_true rfl, Nat.le_of_ble_eq_true rfl⟩ ⟨rfl, rfl⟩ hc (RP.preV hK hP_25 (q0 := 0) (ci := 2) XW_g0 rfl) rfl hl.1 rfl (Nat.le_of_ble_eq_true rfl) dL_law_602 ?_
                                refine lv_iload hx hb dL_law_605 (lv_at hl 21 rfl) ?_
                                refine nv_if_eq (tgt := 633) hx hb dL_law_607 (by omega) (by decide) (fun c_607 => ?_) (fun c_607 => ?_)
                                · skip
                                  refine lv_iload hx hb dL_law_633 (lv_at hl 16 rfl) ?_
                                  refine lv_goto (tgt := 639) hx hb dL_law_635 (by decide) ?_
                                  refine lv_icmp_eq (tgt := 644) hx hb dL_law_639 (by decide) (fun c_639 => ?_) (fun c_639 => ?_)
                                  · skip
                                    refine lv_iinc (v := (nI (u5 + 1))) (lv' := [(22, .int (nI (u5 + 1))), (0, .ref q), (1, .ref (a 0)), (2, .ref (y 0)), (3, .ref (y 1)), (4, .ref (y 2)), (5, .ref (y 3)), (6, .ref (y 4)), (7, .int (nI trip)), (8, .int (nI (29 * trip))), (9, .int (nI n)), (10, .int owed), (11, .int (nI nd)), (12, .int (nI t)), (13, .int (nI x)), (14, .int ((owS n wa ow tt nd k) + (owF n (nwF wa) ow tt nd k))), (15, .int (nI (unS n wa (k + 1)))), (16, .int (nI k)), (17, .int (nI (3 + 3 * k))), (18, .int (nI d)), (19, .int (hwF n (nwF wa) (nwF wa k))), (20, .int (owF n (nwF wa) ow tt nd k))]) hx hb dL_law_644 hl (k := 21) rfl (nI_i1 _) (by decide) rfl (fun ls hl => ?_)
                                    refine lv_goto (tgt := 591) hx hb dL_law_647 (by decide) ?_
                                    exact ih_591 _ (by omega) (trivial) (lv_sub hl [1, 2, 3, 4, 5, 6, 7, 8, 9, 10, 11, 12, 13, 14, 15, 16, 17, 18, 19, 20, 21, 0] rfl)
                                  · exact absurd (by first | exact ck_as1 hzI hk (by omega) (Or.inl (congrArg nI c_607)) | exact ck_as1 hzI hk (by omega) (Or.inr (Or.inl c_616.symm)) | exact ck_as1 hzI hk (by omega) (Or.inr (Or.inr ⟨congrArg nI c_622, c_630⟩)) | exact ck_as0 hzI hk (by omega) (fun q => q.elim (fun h => c_607 ((nI_eq (by omega) (by omega)).mp h)) (fun q => q.elim (fun h => c_616 h.symm) (fun h => c_622 ((nI_eq (by omega) (by omega)).mp h.1)))) | exact ck_as0 hzI hk (by omega) (fun q => q.elim (fun h => c_607 ((nI_eq (by omega) (by omega)).mp h)) (fun q => q.elim (fun h => c_616 h.symm) (fun h => c_630 h.2)))) c_639
                                · skip
                                  refine lv_iload hx hb dL_law_610 (lv_at hl 21 rfl) ?_
                                  refine lv_aload_n hx hb dL_law_612 rfl (lv_at hl 2 rfl) ?_
                                  refine lv_iload hx hb dL_law_613 (lv_at hl 17 rfl) ?_
                                  refine nv_iald hx hb hK.1 hP 41 0 ZW_g41 rfl (by omega) (by omega) dL_law_615 ?_
                                  refine lv_icmp_eq (tgt := 633) hx hb dL_law_616 (by decide) (fun c_616 => ?_) (fun c_616 => ?_)
                                  · skip
                                    refine lv_iload hx hb dL_law_633 (lv_at hl 16 rfl) ?_
                                    refine lv_goto (tgt := 639) hx hb dL_law_635 (by decide) ?_
                                    refine lv_icmp_eq (tgt := 644) hx hb dL_law_639 (by decide) (fun c_639 => ?_) (fun c_639 => ?_)
                                    · skip
                                      refine lv_iinc (v := (nI (u5 + 1))) (lv' := [(22, .int (nI (u5 + 1))), (0, .ref q), (1, .ref (a 0)), (2, .ref (y 0)), (3, .ref (y 1)), (4, .ref (y 2)), (5, .ref (y 3)), (6, .ref (y 4)), (7, .int (nI trip)), (8, .int (nI (29 * trip))), (9, .int (nI n)), (10, .int owed), (11, .int (nI nd)), (12, .int (nI t)), (13, .int (nI x)), (14, .int ((owS n wa ow tt nd k) + (owF n (nwF wa) ow tt nd k))), (15, .int (nI (unS n wa (k + 1)))), (16, .int (nI k)), (17, .int (nI (3 + 3 * k))), (18, .int (nI d)), (19, .int (hwF n (nwF wa) (nwF wa k))), (20, .int (owF n (nwF wa) ow tt nd k))]) hx hb dL_law_644 hl (k := 21) rfl (nI_i1 _) (by decide) rfl (fun ls hl => ?_)
                                      refine lv_goto (tgt := 591) hx hb dL_law_647 (by decide) ?_
                                      exact ih_591 _ (by omega) (trivial) (lv_sub hl [1, 2, 3, 4, 5, 6, 7, 8, 9, 10, 11, 12, 13, 14, 15, 16, 17, 18, 19, 20, 21, 0] rfl)
                                    · exact absurd (by first | exact ck_as1 hzI hk (by omega) (Or.inl (congrArg nI c_607)) | exact ck_as1 hzI hk (by omega) (Or.inr (Or.inl c_616.symm)) | exact ck_as1 hzI hk (by omega) (Or.inr (Or.inr ⟨congrArg nI c_622, c_630⟩)) | exact ck_as0 hzI hk (by omega) (fun q => q.elim (fun h => c_607 ((nI_eq (by omega) (by omega)).mp h)) (fun q => q.elim (fun h => c_616 h.symm) (fun h => c_622 ((nI_eq (by omega) (by omega)).mp h.1)))) | exact ck_as0 hzI hk (by omega) (fun q => q.elim (fun h => c_607 ((nI_eq (by omega) (by omega)).mp h)) (fun q => q.elim (fun h => c_616 h.symm) (fun h => c_630 h.2)))) c_639
                                  · skip
                                    refine lv_iload hx hb dL_law_619 (lv_at hl 21 rfl) ?_
                                    refine lv_iconst (v := (nI 2)) hx hb dL_law_621 (by decide) ?_
                                    refine nv_icmp_ne (tgt := 638) hx hb dL_law_622 (by omega) (by omega) (by decide) (fun c_622 => ?_) (fun c_622 => ?_)
                                    · skip
                                      refine lv_iconst (v := (-1)) hx hb dL_law_638 (by decide) ?_
                                      refine lv_icmp_eq (tgt := 644) hx hb dL_law_639 (by decide) (fun c_639 => ?_) (fun c_639 => ?_)
                                      · skip
                                        refine lv_iinc (v := (nI (u5 + 1))) (lv' := [(22, .int (nI (u5 + 1))), (0, .ref q), (1, .ref (a 0)), (2, .ref (y 0)), (3, .ref (y 1)), (4, .ref (y 2)), (5, .ref (y 3)), (6, .ref (y 4)), (7, .int (nI trip)), (8, .int (nI (29 * trip))), (9, .int (nI n)), (10, .int owed), (11, .int (nI nd)), (12, .int (nI t)), (13, .int (nI x)), (14, .int ((owS n wa ow tt nd k) + (owF n (nwF wa) ow tt nd k))), (15, .int (nI (unS n wa (k + 1)))), (16, .int (nI k)), (17, .int (nI (3 + 3 * k))), (18, .int (nI d)), (19, .int (hwF n (nwF wa) (nwF wa k))), (20, .int (owF n (nwF wa) ow tt nd k))]) hx hb dL_law_644 hl (k := 21) rfl (nI_i1 _) (by decide) rfl (fun ls hl => ?_)
                                        refine lv_goto (tgt := 591) hx hb dL_law_647 (by decide) ?_
                                        exact ih_591 _ (by omega) (trivial) (lv_sub hl [1, 2, 3, 4, 5, 6, 7, 8, 9, 10, 11, 12, 13, 14, 15, 16, 17, 18, 19, 20, 21, 0] rfl)
                                      · exact absurd (by first | exact ck_as1 hzI hk (by omega) (Or.inl (congrArg nI c_607)) | exact ck_as1 hzI hk (by omega) (Or.inr (Or.inl c_616.symm)) | exact ck_as1 hzI hk (by omega) (Or.inr (Or.inr ⟨congrArg nI c_622, c_630⟩)) | exact ck_as0 hzI hk (by omega) (fun q => q.elim (fun h => c_607 ((nI_eq (by omega) (by omega)).mp h)) (fun q => q.elim (fun h => c_616 h.symm) (fun h => c_622 ((nI_eq (by omega) (by omega)).mp h.1)))) | exact ck_as0 hzI hk (by omega) (fun q => q.elim (fun h => c_607 ((nI_eq (by omega) (by omega)).mp h)) (fun q => q.elim (fun h => c_616 h.symm) (fun h => c_630 h.2)))) c_639
                                    · skip
                                      refine lv_aload_n hx hb dL_law_625 rfl (lv_at hl 2 rfl) ?_
                                      refine lv_iload hx hb dL_law_626 (lv_at hl 17 rfl) ?_
                                      refine nv_iald hx hb hK.1 hP 41 0 ZW_g41 rfl (by omega) (by omega) dL_law_628 ?_
                                      refine lv_iconst (v := (nI 4)) hx hb dL_law_629 (by decide) ?_
                                      refine lv_icmp_ne (tgt := 638) hx hb dL_law_630 (by decide) (fun c_630 => ?_) (fun c_630 => ?_)
                                      · skip
                                        refine lv_iconst (v := (-1)) hx hb dL_law_638 (by decide) ?_
                                        refine lv_icmp_eq (tgt := 644) hx hb dL_law_639 (by decide) (fun c_639 => ?_) (fun c_639 => ?_)
                                        · skip
                                          refine lv_iinc (v := (nI (u5 + 1))) (lv' := [(22, .int (nI (u5 + 1))), (0, .ref q), (1, .ref (a 0)), (2, .ref (y 0)), (3, .ref (y 1)), (4, .ref (y 2)), (5, .ref (y 3)), (6, .ref (y 4)), (7, .int (nI trip)), (8, .int (nI (29 * trip))), (9, .int (nI n)), (10, .int owed), (11, .int (nI nd)), (12, .int (nI t)), (13, .int (nI x)), (14, .int ((owS n wa ow tt nd k) + (owF n (nwF wa) ow tt nd k))), (15, .int (nI (unS n wa (k + 1)))), (16, .int (nI k)), (17, .int (nI (3 + 3 * k))), (18, .int (nI d)), (19, .int (hwF n (nwF wa) (nwF wa k))), (20, .int (owF n (nwF wa) ow tt nd k))]) hx hb dL_law_644 hl (k := 21) rfl (nI_i1 _) (by decide) rfl (fun ls hl => ?_)
                                          refine lv_goto (tgt := 591) hx hb dL_law_647 (by decide) ?_
                                          exact ih_591 _ (by omega) (trivial) (lv_sub hl [1, 2, 3, 4, 5, 6, 7, 8, 9, 10, 11, 12, 13, 14, 15, 16, 17, 18, 19, 20, 21, 0] rfl)
                                        · exact absurd (by first | exact ck_as1 hzI hk (by omega) (Or.inl (congrArg nI c_607)) | exact ck_as1 hzI hk (by omega) (Or.inr (Or.inl c_616.symm)) | exact ck_as1 hzI hk (by omega) (Or.inr (Or.inr ⟨congrArg nI c_622, c_630⟩)) | exact ck_as0 hzI hk (by omega) (fun q => q.elim (fun h => c_607 ((nI_eq (by omega) (by omega)).mp h)) (fun q => q.elim (fun h => c_616 h.symm) (fun h => c_622 ((nI_eq (by omega) (by omega)).mp h.1)))) | exact ck_as0 hzI hk (by omega) (fun q => q.elim (fun h => c_607 ((nI_eq (by omega) (by omega)).mp h)) (fun q => q.elim (fun h => c_616 h.symm) (fun h => c_630 h.2)))) c_639
                                      · skip
                                        refine lv_iload hx hb dL_law_633 (lv_at hl 16 rfl) ?_
                                        refine lv_goto (tgt := 639) hx hb dL_law_635 (by decide) ?_
                                        refine lv_icmp_eq (tgt := 644) hx hb dL_law_639 (by decide) (fun c_639 => ?_) (fun c_639 => ?_)
                                        · skip
                                          refine lv_iinc (v := (nI (u5 + 1))) (lv' := [(22, .int (nI (u5 + 1))), (0, .ref q), (1, .ref (a 0)), (2, .ref (y 0)), (3, .ref (y 1)), (4, .ref (y 2)), (5, .ref (y 3)), (6, .ref (y 4)), (7, .int (nI trip)), (8, .int (nI (29 * trip))), (9, .int (nI n)), (10, .int owed), (11, .int (nI nd)), (12, .int (nI t)), (13, .int (nI x)), (14, .int ((owS n wa ow tt nd k) + (owF n (nwF wa) ow tt nd k))), (15, .int (nI (unS n wa (k + 1)))), (16, .int (nI k)), (17, .int (nI (3 + 3 * k))), (18, .int (nI d)), (19, .int (hwF n (nwF wa) (nwF wa k))), (20, .int (owF n (nwF wa) ow tt nd k))]) hx hb dL_law_644 hl (k := 21) rfl (nI_i1 _) (by decide) rfl (fun ls hl => ?_)
                                          refine lv_goto (tgt := 591) hx hb dL_law_647 (by decide) ?_
                                          exact ih_591 _ (by omega) (trivial) (lv_sub hl [1, 2, 3, 4, 5, 6, 7, 8, 9, 10, 11, 12, 13, 14, 15, 16, 17, 18, 19, 20, 21, 0] rfl)
                                        · exact absurd (by first | exact ck_as1 hzI hk (by omega) (Or.inl (congrArg nI c_607)) | exact ck_as1 hzI hk (by omega) (Or.inr (Or.inl c_616.symm)) | exact ck_as1 hzI hk (by omega) (Or.inr (Or.inr ⟨congrArg nI c_622, c_630⟩)) | exact ck_as0 hzI hk (by omega) (fun q => q.elim (fun h => c_607 ((nI_eq (by omega) (by omega)).mp h)) (fun q => q.elim (fun h => c_616 h.symm) (fun h => c_622 ((nI_eq (by omega) (by omega)).mp h.1)))) | exact ck_as0 hzI hk (by omega) (fun q => q.elim (fun h => c_607 ((nI_eq (by omega) (by omega)).mp h)) (fun q => q.elim (fun h => c_616 h.symm) (fun h => c_630 h.2)))) c_639
                            · exact absurd rfl c_583
                          · skip
                            obtain ⟨j, ek⟩ := sub1_pos (by omega) c_526
                            rw [show (nI (n - i)) - (nI 1) = nI j from by rw [ek]; exact sub1_s j] at hl
                            refine lv_aload_n hx hb dL_law_529 rfl (lv_at hl 2 rfl) ?_
                            refine lv_aload hx hb dL_law_530 (lv_at hl 4 rfl) ?_
                            refine lv_iload hx hb dL_law_532 (lv_at hl 22 rfl) ?_
                            refine lv_iload hx hb dL_law_534 (lv_at hl 18 rfl) ?_
                            have hP_26 : va_P D vwCl [(y 0, .inl (cI, 21, .inl wa)), (y 2, .inl (cB, 30, .inr (.inl ga)))] _ := P_s2 hP ZW_g41 ZW_g43
                            refine rdS (As := [.ref (y 0), .ref (y 2), .int (nI j), .int (nI d)]) (rest := []) hx hb hml hown hg (c_L_then l D cI cB aS (y 0) (y 2) wa ga td j d (by first | assumption | omega) (by first | assumption | omega) (by first | assumption | omega) (by first | assumption | omega)) gm_321 sf_L_then ⟨Nat.le_of_ble_eq_true rfl, Nat.le_of_ble_eq_true rfl⟩ ⟨rfl, rfl⟩ hc (RP.preS hK hP_26) rfl hl.1 rfl (Nat.le_of_ble_eq_true rfl) dL_law_536 ?_
                            refine lv_iload hx hb dL_law_539 (lv_at hl 13 rfl) ?_
                            refine lv_sipush (v := (nI 4096)) hx hb dL_law_541 (by decide) ?_
                            refine nv_idiv hx hb dL_law_544 (by omega) (by omega) (by omega) ?_
                            refine lv_bipush (v := (nI 12)) hx hb dL_law_545 (by decide) ?_
                            refine nv_irem hx hb dL_law_547 (by omega) (by omega) (by omega) ?_
                            refine lv_icmp_ne (tgt := 556) hx hb dL_law_548 (by decide) (fun c_548 => ?_) (fun c_548 => ?_)
                            · skip
                              refine lv_iload hx hb dL_law_556 (lv_at hl 21 rfl) ?_
                              refine lv_istore (lv' := [(21, .int (ff (hwP (fun j => tnF wa ga td j d) (nI (x / 4096 % 12))) (n - i) i)), (0, .ref q), (1, .ref (a 0)), (2, .ref (y 0)), (3, .ref (y 1)), (4, .ref (y 2)), (5, .ref (y 3)), (6, .ref (y 4)), (7, .int (nI trip)), (8, .int (nI (29 * trip))), (9, .int (nI n)), (10, .int owed), (11, .int (nI nd)), (12, .int (nI t)), (13, .int (nI x)), (14, .int ((owS n wa ow tt nd k) + (owF n (nwF wa) ow tt nd k))), (15, .int (nI (unS n wa (k + 1)))), (16, .int (nI k)), (17, .int (nI (3 + 3 * k))), (18, .int (nI d)), (19, .int (hwF n (nwF wa) (nwF wa k))), (20, .int (owF n (nwF wa) ow tt nd k)), (22, .int (nI j))]) hx hb dL_law_558 hl (by decide) rfl (fun ls hl => ?_)
                              refine lv_iinc (v := ((nI j) + Int32.ofInt (-1))) (lv' := [(22, .int ((nI j) + Int32.ofInt (-1))), (21, .int (ff (hwP (fun j => tnF wa ga td j d) (nI (x / 4096 % 12))) (n - i) i)), (0, .ref q), (1, .ref (a 0)), (2, .ref (y 0)), (3, .ref (y 1)), (4, .ref (y 2)), (5, .ref (y 3)), (6, .ref (y 4)), (7, .int (nI trip)), (8, .int (nI (29 * trip))), (9, .int (nI n)), (10, .int owed), (11, .int (nI nd)), (12, .int (nI t)), (13, .int (nI x)), (14, .int ((owS n wa ow tt nd k) + (owF n (nwF wa) ow tt nd k))), (15, .int (nI (unS n wa (k + 1)))), (16, .int (nI k)), (17, .int (nI (3 + 3 * k))), (18, .int (nI d)), (19, .int (hwF n (nwF wa) (nwF wa k))), (20, .int (owF n (nwF wa) ow tt nd k))]) hx hb dL_law_560 hl (k := 22) rfl rfl (by decide) rfl (fun ls hl => ?_)
                              refine lv_goto (tgt := 524) hx hb dL_law_563 (by decide) ?_
                              exact ih_524 _ (by omega) (trivial) (by show lv_has ls 25 [(0, .ref q), (1, .ref (a 0)), (2, .ref (y 0)), (3, .ref (y 1)), (4, .ref (y 2)), (5, .ref (y 3)), (6, .ref (y 4)), (7, .int (nI trip)), (8, .int (nI (29 * trip))), (9, .int (nI n)), (10, .int owed), (11, .int (nI nd)), (12, .int (nI t)), (13, .int (nI x)), (14, .int ((owS n wa ow tt nd k) + (owF n (nwF wa) ow tt nd k))), (15, .int (nI (unS n wa (k + 1)))), (16, .int (nI k)), (17, .int (nI (3 + 3 * k))), (18, .int (nI d)), (19, .int (hwF n (nwF wa) (nwF wa k))), (20, .int (owF n (nwF wa) ow tt nd k)), (21, .int (ff (hwP (fun j => tnF wa ga td j d) (nI (x / 4096 % 12))) (n - (i + 1)) (i + 1))), (22, .int ((nI (n - (i + 1))) - (nI 1)))]; rw [show (ff (hwP (fun j => tnF wa ga td j d) (nI (x / 4096 % 12))) (n - (i + 1)) (i + 1)) = ff (hwP (fun j => tnF wa ga td j d) (nI (x / 4096 % 12))) (n - i) i from (fd1 ek (fun q => c_548 (of_decide_eq_true q))), show ((nI (n - (i + 1))) - (nI 1)) = (nI j) + Int32.ofInt (-1) from (by rw [show n - (i + 1) = j by omega]; exact (dec_eq j).symm)]; exact lv_sub hl [2, 3, 4, 5, 6, 7, 8, 9, 10, 11, 12, 13, 14, 15, 16, 17, 18, 19, 20, 21, 22, 1, 0] rfl)
                            · skip
                              refine lv_iload hx hb dL_law_551 (lv_at hl 22 rfl) ?_
                              refine lv_goto (tgt := 558) hx hb dL_law_553 (by decide) ?_
                              refine lv_istore (lv' := [(21, .int (nI j)), (0, .ref q), (1, .ref (a 0)), (2, .ref (y 0)), (3, .ref (y 1)), (4, .ref (y 2)), (5, .ref (y 3)), (6, .ref (y 4)), (7, .int (nI trip)), (8, .int (nI (29 * trip))), (9, .int (nI n)), (10, .int owed), (11, .int (nI nd)), (12, .int (nI t)), (13, .int (nI x)), (14, .int ((owS n wa ow tt nd k) + (owF n (nwF wa) ow tt nd k))), (15, .int (nI (unS n wa (k + 1)))), (16, .int (nI k)), (17, .int (nI (3 + 3 * k))), (18, .int (nI d)), (19, .int (hwF n (nwF wa) (nwF wa k))), (20, .int (owF n (nwF wa) ow tt nd k)), (22, .int (nI j))]) hx hb dL_law_558 hl (by decide) rfl (fun ls hl => ?_)
                              refine lv_iinc (v := ((nI j) + Int32.ofInt (-1))) (lv' := [(22, .int ((nI j) + Int32.ofInt (-1))), (21, .int (nI j)), (0, .ref q), (1, .ref (a 0)), (2, .ref (y 0)), (3, .ref (y 1)), (4, .ref (y 2)), (5, .ref (y 3)), (6, .ref (y 4)), (7, .int (nI trip)), (8, .int (nI (29 * trip))), (9, .int (nI n)), (10, .int owed), (11, .int (nI nd)), (12, .int (nI t)), (13, .int (nI x)), (14, .int ((owS n wa ow tt nd k) + (owF n (nwF wa) ow tt nd k))), (15, .int (nI (unS n wa (k + 1)))), (16, .int (nI k)), (17, .int (nI (3 + 3 * k))), (18, .int (nI d)), (19, .int (hwF n (nwF wa) (nwF wa k))), (20, .int (owF n (nwF wa) ow tt nd k))]) hx hb dL_law_560 hl (k := 22) rfl rfl (by decide) rfl (fun ls hl => ?_)
                              refine lv_goto (tgt := 524) hx hb dL_law_563 (by decide) ?_
                              exact ih_524 _ (by omega) (trivial) (by show lv_has ls 25 [(0, .ref q), (1, .ref (a 0)), (2, .ref (y 0)), (3, .ref (y 1)), (4, .ref (y 2)), (5, .ref (y 3)), (6, .ref (y 4)), (7, .int (nI trip)), (8, .int (nI (29 * trip))), (9, .int (nI n)), (10, .int owed), (11, .int (nI nd)), (12, .int (nI t)), (13, .int (nI x)), (14, .int ((owS n wa ow tt nd k) + (owF n (nwF wa) ow tt nd k))), (15, .int (nI (unS n wa (k + 1)))), (16, .int (nI k)), (17, .int (nI (3 + 3 * k))), (18, .int (nI d)), (19, .int (hwF n (nwF wa) (nwF wa k))), (20, .int (owF n (nwF wa) ow tt nd k)), (21, .int (ff (hwP (fun j => tnF wa ga td j d) (nI (x / 4096 % 12))) (n - (i + 1)) (i + 1))), (22, .int ((nI (n - (i + 1))) - (nI 1)))]; rw [show ((ff (hwP (fun j => tnF wa ga td j d) (nI (x / 4096 % 12))) (n - (i + 1)) (i + 1))) = (nI j) from (fd2 ek (decide_eq_true c_548)), show ((nI (n - (i + 1))) - (nI 1)) = (nI j) + Int32.ofInt (-1) from (by rw [show n - (i + 1) = j by omega]; exact (dec_eq j).symm)]; exact lv_sub hl [2, 3, 4, 5, 6, 7, 8, 9, 10, 11, 12, 13, 14, 15, 16, 17, 18, 19, 20, 21, 22, 1, 0] rfl)
                        · exact absurd rfl c_510
        refine lv_iconst (v := (nI 0)) hx hb dL_law_323 (by decide) ?_
        refine lv_istore (lv' := [(20, .int (nI 0)), (0, .ref q), (1, .ref (a 0)), (2, .ref (y 0)), (3, .ref (y 1)), (4, .ref (y 2)), (5, .ref (y 3)), (6, .ref (y 4)), (7, .int (nI trip)), (8, .int (nI (29 * trip))), (9, .int (nI n)), (10, .int owed), (11, .int (nI nd)), (12, .int (nI t)), (13, .int (nI x)), (14, .int (owS n wa ow tt nd k)), (15, .int (nI (unS n wa (k + 1)))), (16, .int (nI k)), (17, .int (nI (3 + 3 * k))), (18, .int (nI d)), (19, .int (hwF n (nwF wa) (nwF wa k)))]) hx hb dL_law_324 hl (by decide) rfl (fun ls hl => ?_)
        refine lv_iconst (v := (nI 0)) hx hb dL_law_326 (by decide) ?_
        refine lv_istore (lv' := [(21, .int (nI 0)), (20, .int (nI 0)), (0, .ref q), (1, .ref (a 0)), (2, .ref (y 0)), (3, .ref (y 1)), (4, .ref (y 2)), (5, .ref (y 3)), (6, .ref (y 4)), (7, .int (nI trip)), (8, .int (nI (29 * trip))), (9, .int (nI n)), (10, .int owed), (11, .int (nI nd)), (12, .int (nI t)), (13, .int (nI x)), (14, .int (owS n wa ow tt nd k)), (15, .int (nI (unS n wa (k + 1)))), (16, .int (nI k)), (17, .int (nI (3 + 3 * k))), (18, .int (nI d)), (19, .int (hwF n (nwF wa) (nwF wa k)))]) hx hb dL_law_327 hl (by decide) rfl (fun ls hl => ?_)
        -- loop at 329
        refine loopR (nL := 25) (B := nd) (I := fun j => True) (lv := fun j => [(0, .ref q), (1, .ref (a 0)), (2, .ref (y 0)), (3, .ref (y 1)), (4, .ref (y 2)), (5, .ref (y 3)), (6, .ref (y 4)), (7, .int (nI trip)), (8, .int (nI (29 * trip))), (9, .int (nI n)), (10, .int owed), (11, .int (nI nd)), (12, .int (nI t)), (13, .int (nI x)), (14, .int (owS n wa ow tt nd k)), (15, .int (nI (unS n wa (k + 1)))), (16, .int (nI k)), (17, .int (nI (3 + 3 * k))), (18, .int (nI d)), (19, .int (hwF n (nwF wa) (nwF wa k))), (20, .int (sm (owP n (nwF wa) ow tt k) j)), (21, .int (nI j))]) 0 (Nat.zero_le _) (trivial) (by show lv_has ls 25 [(0, .ref q), (1, .ref (a 0)), (2, .ref (y 0)), (3, .ref (y 1)), (4, .ref (y 2)), (5, .ref (y 3)), (6, .ref (y 4)), (7, .int (nI trip)), (8, .int (nI (29 * trip))), (9, .int (nI n)), (10, .int owed), (11, .int (nI nd)), (12, .int (nI t)), (13, .int (nI x)), (14, .int (owS n wa ow tt nd k)), (15, .int (nI (unS n wa (k + 1)))), (16, .int (nI k)), (17, .int (nI (3 + 3 * k))), (18, .int (nI d)), (19, .int (hwF n (nwF wa) (nwF wa k))), (20, .int (sm (owP n (nwF wa) ow tt k) 0)), (21, .int (nI 0))]; exact lv_sub hl [2, 3, 4, 5, 6, 7, 8, 9, 10, 11, 12, 13, 14, 15, 16, 17, 18, 19, 20, 21, 1, 0] rfl) (fun j ls hj hI hl ih => ?_)
        have hl : lv_has ls 25 [(0, .ref q), (1, .ref (a 0)), (2, .ref (y 0)), (3, .ref (y 1)), (4, .ref (y 2)), (5, .ref (y 3)), (6, .ref (y 4)), (7, .int (nI trip)), (8, .int (nI (29 * trip))), (9, .int (nI n)), (10, .int owed), (11, .int (nI nd)), (12, .int (nI t)), (13, .int (nI x)), (14, .int (owS n wa ow tt nd k)), (15, .int (nI (unS n wa (k + 1)))), (16, .int (nI k)), (17, .int (nI (3 + 3 * k))), (18, .int (nI d)), (19, .int (hwF n (nwF wa) (nwF wa k))), (20, .int (sm (owP n (nwF wa) ow tt k) j)), (21, .int (nI j))] := hl
        have ih_329 := ih
        refine lv_iload hx hb dL_law_329 (lv_at hl 21 rfl) ?_
        refine lv_iload hx hb dL_law_331 (lv_at hl 11 rfl) ?_
        refine nv_icmp_ge (tgt := 377) hx hb dL_law_333 (by omega) (by omega) (by decide) (fun c_333 => ?_) (fun c_333 => ?_)
        · skip
          have ej : j = nd := by omega
          rw [ej] at hl
          exact kj_377 _ (by show lv_has ls 25 [(0, .ref q), (1, .ref (a 0)), (2, .ref (y 0)), (3, .ref (y 1)), (4, .ref (y 2)), (5, .ref (y 3)), (6, .ref (y 4)), (7, .int (nI trip)), (8, .int (nI (29 * trip))), (9, .int (nI n)), (10, .int owed), (11, .int (nI nd)), (12, .int (nI t)), (13, .int (nI x)), (14, .int (owS n wa ow tt nd k)), (15, .int (nI (unS n wa (k + 1)))), (16, .int (nI k)), (17, .int (nI (3 + 3 * k))), (18, .int (nI d)), (19, .int (hwF n (nwF wa) (nwF wa k))), (20, .int (owF n (nwF wa) ow tt nd k))]; rw [show (owF n (nwF wa) ow tt nd k) = sm (owP n (nwF wa) ow tt k) nd from rfl]; exact lv_sub hl [0, 1, 2, 3, 4, 5, 6, 7, 8, 9, 10, 11, 12, 13, 14, 15, 16, 17, 18, 19, 20] rfl)
        · skip
          refine lv_iload hx hb dL_law_336 (lv_at hl 19 rfl) ?_
          refine lv_iload hx hb dL_law_338 (lv_at hl 16 rfl) ?_
          refine lv_icmp_ne (tgt := 377) hx hb dL_law_340 (by decide) (fun c_340 => ?_) (fun c_340 => ?_)
          · skip
            exact kj_377 _ (by show lv_has ls 25 [(0, .ref q), (1, .ref (a 0)), (2, .ref (y 0)), (3, .ref (y 1)), (4, .ref (y 2)), (5, .ref (y 3)), (6, .ref (y 4)), (7, .int (nI trip)), (8, .int (nI (29 * trip))), (9, .int (nI n)), (10, .int owed), (11, .int (nI nd)), (12, .int (nI t)), (13, .int (nI x)), (14, .int (owS n wa ow tt nd k)), (15, .int (nI (unS n wa (k + 1)))), (16, .int (nI k)), (17, .int (nI (3 + 3 * k))), (18, .int (nI d)), (19, .int (hwF n (nwF wa) (nwF wa k))), (20, .int (owF n (nwF wa) ow tt nd k))]; rw [show (owF n (nwF wa) ow tt nd k) = sm (owP n (nwF wa) ow tt k) j from (ow_end hn6 hk c_340)]; exact lv_sub hl [0, 1, 2, 3, 4, 5, 6, 7, 8, 9, 10, 11, 12, 13, 14, 15, 16, 17, 18, 19, 20] rfl)
          · skip
            refine lv_iload hx hb dL_law_343 (lv_at hl 20 rfl) ?_
            refine lv_aload hx hb dL_law_345 (lv_at hl 5 rfl) ?_
            refine lv_iload hx hb dL_law_347 (lv_at hl 21 rfl) ?_
            refine nv_iald hx hb hK.1 hP 44 0 ZW_g44 rfl (by omega) (by omega) dL_law_349 ?_
            refine lv_aload_n hx hb dL_law_350 rfl (lv_at hl 2 rfl) ?_
            refine lv_iload hx hb dL_law_351 (lv_at hl 16 rfl) ?_
            have hP_27 : va_P D vwCl [(y 0, .inl (cI, 21, .inl wa))] _ := P_s1 hP ZW_g41
            refine rdS (As := [.ref (y 0), .int (nI k)]) (rest := [.int (tt j), .int (sm (owP n (nwF wa) ow tt k) j)]) hx hb hml hown hg (c_L_now l D cI cB aS (y 0) wa k (by first | assumption | omega)) gm_318 sf_L_now ⟨Nat.le_of_ble_eq_true rfl, Nat.le_of_ble_eq_true rfl⟩ ⟨rfl, rfl⟩ hc (RP.preS hK hP_27) rfl hl.1 rfl (Nat.le_of_ble_eq_true rfl) dL_law_353 ?_
            refine lv_icmp_ne (tgt := 367) hx hb dL_law_356 (by decide) (fun c_356 => ?_) (fun c_356 => ?_)
            · skip
              refine lv_iconst (v := (nI 0)) hx hb dL_law_367 (by decide) ?_
              refine lv_iadd hx hb dL_law_368 ?_
              refine lv_istore (lv' := [(20, .int ((sm (owP n (nwF wa) ow tt k) j) + (nI 0))), (0, .ref q), (1, .ref (a 0)), (2, .ref (y 0)), (3, .ref (y 1)), (4, .ref (y 2)), (5, .ref (y 3)), (6, .ref (y 4)), (7, .int (nI trip)), (8, .int (nI (29 * trip))), (9, .int (nI n)), (10, .int owed), (11, .int (nI nd)), (12, .int (nI t)), (13, .int (nI x)), (14, .int (owS n wa ow tt nd k)), (15, .int (nI (unS n wa (k + 1)))), (16, .int (nI k)), (17, .int (nI (3 + 3 * k))), (18, .int (nI d)), (19, .int (hwF n (nwF wa) (nwF wa k))), (21, .int (nI j))]) hx hb dL_law_369 hl (by decide) rfl (fun ls hl => ?_)
              refine lv_iinc (v := (nI (j + 1))) (lv' := [(21, .int (nI (j + 1))), (20, .int ((sm (owP n (nwF wa) ow tt k) j) + (nI 0))), (0, .ref q), (1, .ref (a 0)), (2, .ref (y 0)), (3, .ref (y 1)), (4, .ref (y 2)), (5, .ref (y 3)), (6, .ref (y 4)), (7, .int (nI trip)), (8, .int (nI (29 * trip))), (9, .int (nI n)), (10, .int owed), (11, .int (nI nd)), (12, .int (nI t)), (13, .int (nI x)), (14, .int (owS n wa ow tt nd k)), (15, .int (nI (unS n wa (k + 1)))), (16, .int (nI k)), (17, .int (nI (3 + 3 * k))), (18, .int (nI d)), (19, .int (hwF n (nwF wa) (nwF wa k)))]) hx hb dL_law_371 hl (k := 21) rfl (nI_i1 _) (by decide) rfl (fun ls hl => ?_)
              refine lv_goto (tgt := 329) hx hb dL_law_374 (by decide) ?_
              exact ih_329 _ (by omega) (trivial) (by show lv_has ls 25 [(0, .ref q), (1, .ref (a 0)), (2, .ref (y 0)), (3, .ref (y 1)), (4, .ref (y 2)), (5, .ref (y 3)), (6, .ref (y 4)), (7, .int (nI trip)), (8, .int (nI (29 * trip))), (9, .int (nI n)), (10, .int owed), (11, .int (nI nd)), (12, .int (nI t)), (13, .int (nI x)), (14, .int (owS n wa ow tt nd k)), (15, .int (nI (unS n wa (k + 1)))), (16, .int (nI k)), (17, .int (nI (3 + 3 * k))), (18, .int (nI d)), (19, .int (hwF n (nwF wa) (nwF wa k))), (20, .int (sm (owP n (nwF wa) ow tt k) (j + 1))), (21, .int (nI (j + 1)))]; rw [show (sm (owP n (nwF wa) ow tt k) (j + 1)) = (sm (owP n (nwF wa) ow tt k) j) + (nI 0) from (by simp only [sm]; rw [owP_2 hn6 hk c_356])]; exact lv_sub hl [2, 3, 4, 5, 6, 7, 8, 9, 10, 11, 12, 13, 14, 15, 16, 17, 18, 19, 20, 21, 1, 0] rfl)
            · skip
              refine lv_aload hx hb dL_law_359 (lv_at hl 6 rfl) ?_
              refine lv_iload hx hb dL_law_361 (lv_at hl 21 rfl) ?_
              refine nv_iald hx hb hK.1 hP 45 0 ZW_g45 rfl (by omega) (by omega) dL_law_363 ?_
              refine lv_goto (tgt := 368) hx hb dL_law_364 (by decide) ?_
              refine lv_iadd hx hb dL_law_368 ?_
              refine lv_istore (lv' := [(20, .int ((sm (owP n (nwF wa) ow tt k) j) + (ow j))), (0, .ref q), (1, .ref (a 0)), (2, .ref (y 0)), (3, .ref (y 1)), (4, .ref (y 2)), (5, .ref (y 3)), (6, .ref (y 4)), (7, .int (nI trip)), (8, .int (nI (29 * trip))), (9, .int (nI n)), (10, .int owed), (11, .int (nI nd)), (12, .int (nI t)), (13, .int (nI x)), (14, .int (owS n wa ow tt nd k)), (15, .int (nI (unS n wa (k + 1)))), (16, .int (nI k)), (17, .int (nI (3 + 3 * k))), (18, .int (nI d)), (19, .int (hwF n (nwF wa) (nwF wa k))), (21, .int (nI j))]) hx hb dL_law_369 hl (by decide) rfl (fun ls hl => ?_)
              refine lv_iinc (v := (nI (j + 1))) (lv' := [(21, .int (nI (j + 1))), (20, .int ((sm (owP n (nwF wa) ow tt k) j) + (ow j))), (0, .ref q), (1, .ref (a 0)), (2, .ref (y 0)), (3, .ref (y 1)), (4, .ref (y 2)), (5, .ref (y 3)), (6, .ref (y 4)), (7, .int (nI trip)), (8, .int (nI (29 * trip))), (9, .int (nI n)), (10, .int owed), (11, .int (nI nd)), (12, .int (nI t)), (13, .int (nI x)), (14, .int (owS n wa ow tt nd k)), (15, .int (nI (unS n wa (k + 1)))), (16, .int (nI k)), (17, .int (nI (3 + 3 * k))), (18, .int (nI d)), (19, .int (hwF n (nwF wa) (nwF wa k)))]) hx hb dL_law_371 hl (k := 21) rfl (nI_i1 _) (by decide) rfl (fun ls hl => ?_)
              refine lv_goto (tgt := 329) hx hb dL_law_374 (by decide) ?_
              exact ih_329 _ (by omega) (trivial) (by show lv_has ls 25 [(0, .ref q), (1, .ref (a 0)), (2, .ref (y 0)), (3, .ref (y 1)), (4, .ref (y 2)), (5, .ref (y 3)), (6, .ref (y 4)), (7, .int (nI trip)), (8, .int (nI (29 * trip))), (9, .int (nI n)), (10, .int owed), (11, .int (nI nd)), (12, .int (nI t)), (13, .int (nI x)), (14, .int (owS n wa ow tt nd k)), (15, .int (nI (unS n wa (k + 1)))), (16, .int (nI k)), (17, .int (nI (3 + 3 * k))), (18, .int (nI d)), (19, .int (hwF n (nwF wa) (nwF wa k))), (20, .int (sm (owP n (nwF wa) ow tt k) (j + 1))), (21, .int (nI (j + 1)))]; rw [show (sm (owP n (nwF wa) ow tt k) (j + 1)) = (sm (owP n (nwF wa) ow tt k) j) + (ow j) from (by simp only [sm]; rw [owP_1 c_340 c_356])]; exact lv_sub hl [2, 3, 4, 5, 6, 7, 8, 9, 10, 11, 12, 13, 14, 15, 16, 17, 18, 19, 20, 21, 1, 0] rfl)
      refine lv_iload hx hb dL_law_306 (lv_at hl 15 rfl) ?_
      refine lv_iload hx hb dL_law_308 (lv_at hl 19 rfl) ?_
      refine lv_iload hx hb dL_law_310 (lv_at hl 16 rfl) ?_
      refine lv_icmp_ne (tgt := 319) hx hb dL_law_312 (by decide) (fun c_312 => ?_) (fun c_312 => ?_)
      · skip
        refine lv_iconst (v := (nI 0)) hx hb dL_law_319 (by decide) ?_
        refine nv_iadd hx hb dL_law_320 ?_
        refine lv_istore (lv' := [(15, .int (nI (unS n wa k + 0))), (0, .ref q), (1, .ref (a 0)), (2, .ref (y 0)), (3, .ref (y 1)), (4, .ref (y 2)), (5, .ref (y 3)), (6, .ref (y 4)), (7, .int (nI trip)), (8, .int (nI (29 * trip))), (9, .int (nI n)), (10, .int owed), (11, .int (nI nd)), (12, .int (nI t)), (13, .int (nI x)), (14, .int (owS n wa ow tt nd k)), (16, .int (nI k)), (17, .int (nI (3 + 3 * k))), (18, .int (nI d)), (19, .int (hwF n (nwF wa) (nwF wa k))), (20, .int ((nI (n - i)) - (nI 1)))]) hx hb dL_law_321 hl (by decide) rfl (fun ls hl => ?_)
        exact kj_323 _ (by show lv_has ls 25 [(0, .ref q), (1, .ref (a 0)), (2, .ref (y 0)), (3, .ref (y 1)), (4, .ref (y 2)), (5, .ref (y 3)), (6, .ref (y 4)), (7, .int (nI trip)), (8, .int (nI (29 * trip))), (9, .int (nI n)), (10, .int owed), (11, .int (nI nd)), (12, .int (nI t)), (13, .int (nI x)), (14, .int (owS n wa ow tt nd k)), (15, .int (nI (unS n wa (k + 1)))), (16, .int (nI k)), (17, .int (nI (3 + 3 * k))), (18, .int (nI d)), (19, .int (hwF n (nwF wa) (nwF wa k)))]; rw [show (unS n wa (k + 1)) = unS n wa k + 0 from (cn_f (decide_eq_false c_312))]; exact lv_sub hl [1, 2, 3, 4, 5, 6, 7, 8, 9, 10, 11, 12, 13, 14, 15, 0, 16, 17, 18, 19] rfl)
      · skip
        refine lv_iconst (v := (nI 1)) hx hb dL_law_315 (by decide) ?_
        refine lv_goto (tgt := 320) hx hb dL_law_316 (by decide) ?_
        refine nv_iadd hx hb dL_law_320 ?_
        refine lv_istore (lv' := [(15, .int (nI (unS n wa k + 1))), (0, .ref q), (1, .ref (a 0)), (2, .ref (y 0)), (3, .ref (y 1)), (4, .ref (y 2)), (5, .ref (y 3)), (6, .ref (y 4)), (7, .int (nI trip)), (8, .int (nI (29 * trip))), (9, .int (nI n)), (10, .int owed), (11, .int (nI nd)), (12, .int (nI t)), (13, .int (nI x)), (14, .int (owS n wa ow tt nd k)), (16, .int (nI k)), (17, .int (nI (3 + 3 * k))), (18, .int (nI d)), (19, .int (hwF n (nwF wa) (nwF wa k))), (20, .int ((nI (n - i)) - (nI 1)))]) hx hb dL_law_321 hl (by decide) rfl (fun ls hl => ?_)
        exact kj_323 _ (by show lv_has ls 25 [(0, .ref q), (1, .ref (a 0)), (2, .ref (y 0)), (3, .ref (y 1)), (4, .ref (y 2)), (5, .ref (y 3)), (6, .ref (y 4)), (7, .int (nI trip)), (8, .int (nI (29 * trip))), (9, .int (nI n)), (10, .int owed), (11, .int (nI nd)), (12, .int (nI t)), (13, .int (nI x)), (14, .int (owS n wa ow tt nd k)), (15, .int (nI (unS n wa (k + 1)))), (16, .int (nI k)), (17, .int (nI (3 + 3 * k))), (18, .int (nI d)), (19, .int (hwF n (nwF wa) (nwF wa k)))]; rw [show (unS n wa (k + 1)) = unS n wa k + 1 from (cn_t (decide_eq_true c_312))]; exact lv_sub hl [1, 2, 3, 4, 5, 6, 7, 8, 9, 10, 11, 12, 13, 14, 15, 0, 16, 17, 18, 19] rfl)
    · skip
      obtain ⟨j, ek⟩ := sub1_pos (by omega) c_273
      rw [show (nI (n - i)) - (nI 1) = nI j from by rw [ek]; exact sub1_s j] at hl
      refine lv_aload_n hx hb dL_law_276 rfl (lv_at hl 2 rfl) ?_
      refine lv_iload hx hb dL_law_277 (lv_at hl 20 rfl) ?_
      have hP_28 : va_P D vwCl [(y 0, .inl (cI, 21, .inl wa))] _ := P_s1 hP ZW_g41
      refine rdS (As := [.ref (y 0), .int (nI j)]) (rest := []) hx hb hml hown hg (c_L_now l D cI cB aS (y 0) wa j (by first | assumption | omega)) gm_318 sf_L_now ⟨Nat.le_of_ble_eq_true rfl, Nat.le_of_ble_eq_true rfl⟩ ⟨rfl, rfl⟩ hc (RP.preS hK hP_28) rfl hl.1 rfl (Nat.le_of_ble_eq_true rfl) dL_law_279 ?_
      refine lv_aload_n hx hb dL_law_282 rfl (lv_at hl 2 rfl) ?_
      refine lv_iload hx hb dL_law_283 (lv_at hl 16 rfl) ?_
      have hP_29 : va_P D vwCl [(y 0, .inl (cI, 21, .inl wa))] _ := P_s1 hP ZW_g41
      refine rdS (As := [.ref (y 0), .int (nI k)]) (rest := [.int (nwF wa j)]) hx hb hml hown hg (c_L_now l D cI cB aS (y 0) wa k (by first | assumption | omega)) gm_318 sf_L_now ⟨Nat.le_of_ble_eq_true rfl, Nat.le_of_ble_eq_true rfl⟩ ⟨rfl, rfl⟩ hc (RP.preS hK hP_29) rfl hl.1 rfl (Nat.le_of_ble_eq_true rfl) dL_law_285 ?_
      refine lv_icmp_ne (tgt := 296) hx hb dL_law_288 (by decide) (fun c_288 => ?_) (fun c_288 => ?_)
      · skip
        refine lv_iload hx hb dL_law_296 (lv_at hl 19 rfl) ?_
        refine lv_istore (lv' := [(19, .int (ff (hwP (nwF wa) (nwF wa k)) (n - i) i)), (0, .ref q), (1, .ref (a 0)), (2, .ref (y 0)), (3, .ref (y 1)), (4, .ref (y 2)), (5, .ref (y 3)), (6, .ref (y 4)), (7, .int (nI trip)), (8, .int (nI (29 * trip))), (9, .int (nI n)), (10, .int owed), (11, .int (nI nd)), (12, .int (nI t)), (13, .int (nI x)), (14, .int (owS n wa ow tt nd k)), (15, .int (nI (unS n wa k))), (16, .int (nI k)), (17, .int (nI (3 + 3 * k))), (18, .int (nI d)), (20, .int (nI j))]) hx hb dL_law_298 hl (by decide) rfl (fun ls hl => ?_)
        refine lv_iinc (v := ((nI j) + Int32.ofInt (-1))) (lv' := [(20, .int ((nI j) + Int32.ofInt (-1))), (19, .int (ff (hwP (nwF wa) (nwF wa k)) (n - i) i)), (0, .ref q), (1, .ref (a 0)), (2, .ref (y 0)), (3, .ref (y 1)), (4, .ref (y 2)), (5, .ref (y 3)), (6, .ref (y 4)), (7, .int (nI trip)), (8, .int (nI (29 * trip))), (9, .int (nI n)), (10, .int owed), (11, .int (nI nd)), (12, .int (nI t)), (13, .int (nI x)), (14, .int (owS n wa ow tt nd k)), (15, .int (nI (unS n wa k))), (16, .int (nI k)), (17, .int (nI (3 + 3 * k))), (18, .int (nI d))]) hx hb dL_law_300 hl (k := 20) rfl rfl (by decide) rfl (fun ls hl => ?_)
        refine lv_goto (tgt := 271) hx hb dL_law_303 (by decide) ?_
        exact ih_271 _ (by omega) (trivial) (by show lv_has ls 25 [(0, .ref q), (1, .ref (a 0)), (2, .ref (y 0)), (3, .ref (y 1)), (4, .ref (y 2)), (5, .ref (y 3)), (6, .ref (y 4)), (7, .int (nI trip)), (8, .int (nI (29 * trip))), (9, .int (nI n)), (10, .int owed), (11, .int (nI nd)), (12, .int (nI t)), (13, .int (nI x)), (14, .int (owS n wa ow tt nd k)), (15, .int (nI (unS n wa k))), (16, .int (nI k)), (17, .int (nI (3 + 3 * k))), (18, .int (nI d)), (19, .int (ff (hwP (nwF wa) (nwF wa k)) (n - (i + 1)) (i + 1))), (20, .int ((nI (n - (i + 1))) - (nI 1)))]; rw [show (ff (hwP (nwF wa) (nwF wa k)) (n - (i + 1)) (i + 1)) = ff (hwP (nwF wa) (nwF wa k)) (n - i) i from (fd1 ek (fun q => c_288 (of_decide_eq_true q))), show ((nI (n - (i + 1))) - (nI 1)) = (nI j) + Int32.ofInt (-1) from (by rw [show n - (i + 1) = j by omega]; exact (dec_eq j).symm)]; exact lv_sub hl [2, 3, 4, 5, 6, 7, 8, 9, 10, 11, 12, 13, 14, 15, 16, 17, 18, 19, 20, 1, 0] rfl)
      · skip
        refine lv_iload hx hb dL_law_291 (lv_at hl 20 rfl) ?_
        refine lv_goto (tgt := 298) hx hb dL_law_293 (by decide) ?_
        refine lv_istore (lv' := [(19, .int (nI j)), (0, .ref q), (1, .ref (a 0)), (2, .ref (y 0)), (3, .ref (y 1)), (4, .ref (y 2)), (5, .ref (y 3)), (6, .ref (y 4)), (7, .int (nI trip)), (8, .int (nI (29 * trip))), (9, .int (nI n)), (10, .int owed), (11, .int (nI nd)), (12, .int (nI t)), (13, .int (nI x)), (14, .int (owS n wa ow tt nd k)), (15, .int (nI (unS n wa k))), (16, .int (nI k)), (17, .int (nI (3 + 3 * k))), (18, .int (nI d)), (20, .int (nI j))]) hx hb dL_law_298 hl (by decide) rfl (fun ls hl => ?_)
        refine lv_iinc (v := ((nI j) + Int32.ofInt (-1))) (lv' := [(20, .int ((nI j) + Int32.ofInt (-1))), (19, .int (nI j)), (0, .ref q), (1, .ref (a 0)), (2, .ref (y 0)), (3, .ref (y 1)), (4, .ref (y 2)), (5, .ref (y 3)), (6, .ref (y 4)), (7, .int (nI trip)), (8, .int (nI (29 * trip))), (9, .int (nI n)), (10, .int owed), (11, .int (nI nd)), (12, .int (nI t)), (13, .int (nI x)), (14, .int (owS n wa ow tt nd k)), (15, .int (nI (unS n wa k))), (16, .int (nI k)), (17, .int (nI (3 + 3 * k))), (18, .int (nI d))]) hx hb dL_law_300 hl (k := 20) rfl rfl (by decide) rfl (fun ls hl => ?_)
        refine lv_goto (tgt := 271) hx hb dL_law_303 (by decide) ?_
        exact ih_271 _ (by omega) (trivial) (by show lv_has ls 25 [(0, .ref q), (1, .ref (a 0)), (2, .ref (y 0)), (3, .ref (y 1)), (4, .ref (y 2)), (5, .ref (y 3)), (6, .ref (y 4)), (7, .int (nI trip)), (8, .int (nI (29 * trip))), (9, .int (nI n)), (10, .int owed), (11, .int (nI nd)), (12, .int (nI t)), (13, .int (nI x)), (14, .int (owS n wa ow tt nd k)), (15, .int (nI (unS n wa k))), (16, .int (nI k)), (17, .int (nI (3 + 3 * k))), (18, .int (nI d)), (19, .int (ff (hwP (nwF wa) (nwF wa k)) (n - (i + 1)) (i + 1))), (20, .int ((nI (n - (i + 1))) - (nI 1)))]; rw [show ((ff (hwP (nwF wa) (nwF wa k)) (n - (i + 1)) (i + 1))) = (nI j) from (fd2 ek (decide_eq_true c_288)), show ((nI (n - (i + 1))) - (nI 1)) = (nI j) + Int32.ofInt (-1) from (by rw [show n - (i + 1) = j by omega]; exact (dec_eq j).symm)]; exact lv_sub hl [2, 3, 4, 5, 6, 7, 8, 9, 10, 11, 12, 13, 14, 15, 16, 17, 18, 19, 20, 1, 0] rfl)
