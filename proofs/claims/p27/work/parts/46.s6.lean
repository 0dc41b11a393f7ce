set_option maxRecDepth 100000 in
set_option maxHeartbeats 8000000 in
theorem law_refused {p : Program} {l : Launch} {e : Env} {s : State} {m : MethodId} {args : Array Value} {below : List Frame} {meth : Method} {c : Code} {D : va_G} {cI cB : ClassId} {aS aV : Nat} {A : Nat → Prop} {a y : Nat → Nat} {q L : Nat} {xs : Nat → Int32} {cells slots : Nat} {Q : State → Prop} (C : zC p s m c args D cI cB aS aV A a y q L xs) (hc : cells ≤ room_1.cells ∧ slots ≤ room_1.slots) {trip n nd : Nat} {owed : Int32} {H : Heap} {locs : List Loc} {ls : Array Slot} (J : zJ D cI cB A a y s n nd owed H locs) (hl : lv_has ls 25 [(0, .ref q), (1, .ref (a 0)), (2, .ref (y 0)), (3, .ref (y 1)), (4, .ref (y 2)), (5, .ref (y 3)), (6, .ref (y 4)), (7, .int (nI trip)), (8, .int (nI (29 * trip))), (9, .int (nI n)), (10, .int owed), (11, .int (nI nd))]) (kk : ∀ (H : Heap) (locs : List Loc) (ls : Array Slot), zT D cI cB A a y s (trip + 1) H locs → lv_has ls 25 [(0, .ref q), (1, .ref (a 0)), (2, .ref (y 0)), (3, .ref (y 1)), (4, .ref (y 2)), (5, .ref (y 3)), (6, .ref (y 4)), (7, .int (nI trip))] → W p l e room_1 s m args below meth c H locs cells slots Q (F0 m 1270 ls [])) : W p l e room_1 s m args below meth c H locs cells slots Q (F0 m 1024 ls []) := by
  obtain ⟨hx, hb, hml, hown, hg, hK, hE, hX, hbl, hbA, hL, hDZ⟩ := C
  obtain ⟨st, ik, td, nh, bs, ktd, knd, knh, kbs, pg, kd, ag, pa, bo, dm, dn, hh, hn, kag, kpa, kbo, kdm, kdn, khh, khn, wb, ps, ty, wa, wc, ga, tt, ow, hzI, hzD, how, hP, hS⟩ := J
  obtain ⟨h2n, hn6, qt, hw0, hw1, hw2, hho, hg9⟩ := id hzI
  have qnd := hzD.1
  have hn0 : 0 < n := by omega
  have hD : va_D A (ZW cI cB a y 0 n st ik td nd nh bs ktd knd knh kbs pg kd ag pa bo dm dn hh hn kag kpa kbo kdm kdn khh khn wb ps ty wa wc ga tt ow) := hDZ _ ZW_addr
  refine lv_aload_n hx hb dL_law_1024 rfl (lv_at hl 1 rfl) ?_
  refine lv_iload hx hb dL_law_1025 (lv_at hl 9 rfl) ?_
  refine lv_iconst (v := (nI 0)) hx hb dL_law_1027 (by decide) ?_
  have hP_1 : va_P D vwCl (XW cI a 0 n st ik td nd nh bs ktd knd knh kbs pg kd ag pa bo dm dn hh hn kag kpa kbo kdm kdn khh khn wb ps ty) _ := P_X hP
  refine rdV (As := [.int (nI n), .int (nI 0)]) (rest := []) hx hb hml hown hg (c_X2_about l D cI cB aS _ 0 n st ik td nd nh bs ktd knd knh kbs pg kd ag pa bo dm dn hh hn kag kpa kbo kdm kdn khh khn wb ps ty (nI n) (nI 0) (by first | assumption | omega) (by first | assumption | omega) (by first | assumption | omega)) gm_88 vf_X2_about ⟨Nat.le_of_ble_eq_true rfl, Nat.le_of_ble_eq_true rfl⟩ ⟨rfl, rfl⟩ hc (RP.preV hK hP_1 (q0 := 0) (ci := 2) XW_g0 rfl) rfl hl.1 rfl (Nat.le_of_ble_eq_true rfl) dL_law_1028 ?_
  rw [show ((abtF n kd ag bo dm dn nd (nI n) (nI 0)) : Int32) = (-101) from rf_ab1]
  refine lv_bipush (v := (-101)) hx hb dL_law_1031 (by decide) ?_
  refine lv_icmp_ne (tgt := 1268) hx hb dL_law_1033 (by decide) (fun c_1033 => ?_) (fun c_1033 => ?_)
  · exact absurd rfl c_1033
  · skip
    refine lv_aload_n hx hb dL_law_1036 rfl (lv_at hl 1 rfl) ?_
    refine lv_iconst (v := (nI 0)) hx hb dL_law_1037 (by decide) ?_
    refine lv_bipush (v := (nI 6)) hx hb dL_law_1038 (by decide) ?_
    have hP_2 : va_P D vwCl (XW cI a 0 n st ik td nd nh bs ktd knd knh kbs pg kd ag pa bo dm dn hh hn kag kpa kbo kdm kdn khh khn wb ps ty) _ := P_X hP
    refine rdV (As := [.int (nI 0), .int (nI 6)]) (rest := []) hx hb hml hown hg (c_X2_about l D cI cB aS _ 0 n st ik td nd nh bs ktd knd knh kbs pg kd ag pa bo dm dn hh hn kag kpa kbo kdm kdn khh khn wb ps ty (nI 0) (nI 6) (by first | assumption | omega) (by first | assumption | omega) (by first | assumption | omega)) gm_88 vf_X2_about ⟨Nat.le_of_ble_eq_true rfl, Nat.le_of_ble_eq_true rfl⟩ ⟨rfl, rfl⟩ hc (RP.preV hK hP_2 (q0 := 0) (ci := 2) XW_g0 rfl) rfl hl.1 rfl (Nat.le_of_ble_eq_true rfl) dL_law_1040 ?_
    rw [show ((abtF n kd ag bo dm dn nd (nI 0) (nI 6)) : Int32) = (-102) from rf_ab2 hn0 hn6]
    refine lv_bipush (v := (-102)) hx hb dL_law_1043 (by decide) ?_
    refine lv_icmp_ne (tgt := 1268) hx hb dL_law_1045 (by decide) (fun c_1045 => ?_) (fun c_1045 => ?_)
    · exact absurd rfl c_1045
    · skip
      refine lv_aload_n hx hb dL_law_1048 rfl (lv_at hl 1 rfl) ?_
      refine lv_iload hx hb dL_law_1049 (lv_at hl 9 rfl) ?_
      refine lv_iconst (v := (nI 0)) hx hb dL_law_1051 (by decide) ?_
      have hP_3 : va_P D vwCl (XW cI a 0 n st ik td nd nh bs ktd knd knh kbs pg kd ag pa bo dm dn hh hn kag kpa kbo kdm kdn khh khn wb ps ty) _ := P_X hP
      refine rdV (As := [.int (nI n), .int (nI 0)]) (rest := []) hx hb hml hown hg (c_X2_as l D cI cB aS _ 0 n st ik td nd nh bs ktd knd knh kbs pg kd ag pa bo dm dn hh hn kag kpa kbo kdm kdn khh khn wb ps ty (nI n) (nI 0) (by first | assumption | omega)) gm_123 vf_X2_as ⟨Nat.le_of_ble_eq_true rfl, Nat.le_of_ble_eq_true rfl⟩ ⟨rfl, rfl⟩ hc (RP.preV hK hP_3 (q0 := 0) (ci := 2) XW_g0 rfl) rfl hl.1 rfl (Nat.le_of_ble_eq_true rfl) dL_law_1052 ?_
      rw [show ((asF n kd (nI n) (nI 0)) : Int32) = (-101) from rf_as1]
      refine lv_bipush (v := (-101)) hx hb dL_law_1055 (by decide) ?_
      refine lv_icmp_ne (tgt := 1268) hx hb dL_law_1057 (by decide) (fun c_1057 => ?_) (fun c_1057 => ?_)
      · exact absurd rfl c_1057
      · skip
        refine lv_aload_n hx hb dL_law_1060 rfl (lv_at hl 1 rfl) ?_
        refine lv_iconst (v := (nI 0)) hx hb dL_law_1061 (by decide) ?_
        refine lv_iconst (v := (nI 5)) hx hb dL_law_1062 (by decide) ?_
        have hP_4 : va_P D vwCl (XW cI a 0 n st ik td nd nh bs ktd knd knh kbs pg kd ag pa bo dm dn hh hn kag kpa kbo kdm kdn khh khn wb ps ty) _ := P_X hP
        refine rdV (As := [.int (nI 0), .int (nI 5)]) (rest := []) hx hb hml hown hg (c_X2_as l D cI cB aS _ 0 n st ik td nd nh bs ktd knd knh kbs pg kd ag pa bo dm dn hh hn kag kpa kbo kdm kdn khh khn wb ps ty (nI 0) (nI 5) (by first | assumption | omega)) gm_123 vf_X2_as ⟨Nat.le_of_ble_eq_true rfl, Nat.le_of_ble_eq_true rfl⟩ ⟨rfl, rfl⟩ hc (RP.preV hK hP_4 (q0 := 0) (ci := 2) XW_g0 rfl) rfl hl.1 rfl (Nat.le_of_ble_eq_true rfl) dL_law_1063 ?_
        rw [show ((asF n kd (nI 0) (nI 5)) : Int32) = (-102) from rf_as2 hn0 hn6]
        refine lv_bipush (v := (-102)) hx hb dL_law_1066 (by decide) ?_
        refine lv_icmp_ne (tgt := 1268) hx hb dL_law_1068 (by decide) (fun c_1068 => ?_) (fun c_1068 => ?_)
        · exact absurd rfl c_1068
        · skip
          refine lv_aload_n hx hb dL_law_1071 rfl (lv_at hl 1 rfl) ?_
          refine lv_iload hx hb dL_law_1072 (lv_at hl 9 rfl) ?_
          have hP_5 : va_P D vwCl (XW cI a 0 n st ik td nd nh bs ktd knd knh kbs pg kd ag pa bo dm dn hh hn kag kpa kbo kdm kdn khh khn wb ps ty) _ := P_X hP
          refine wrVi (As := [.int (nI n)]) (rest := []) hx hb hml hown hg (c_X2_birth l D cI cB aS _ 0 n st ik td nd nh bs ktd knd knh kbs pg kd ag pa bo dm dn hh hn kag kpa kbo kdm kdn khh khn wb ps ty (nI n) ((D_X hD).weaken (fun _ _ _ _ => trivial)) (by first | assumption | omega)) gm_130 vf_X2_birth ⟨Nat.le_of_ble_eq_true rfl, Nat.le_of_ble_eq_true rfl⟩ ⟨rfl, rfl⟩ hc (RP.preV hK hP_5 (q0 := 0) (ci := 2) XW_g0 rfl) rfl hl.1 rfl (Nat.le_of_ble_eq_true rfl) dL_law_1074 hS (inW_all (D_X hD)) (fun r_6 u_6 H1 locs hpo_6 hP1 hk1 hS => ?_)
          have ef_6 : birF n kd ag bo bs (nI n) = ((-101), ag, bo, bs) := bir_1 hOut
          have er_6 : r_6 = (-101) := congrArg Prod.fst (hpo_6.trans (ef_6))
          have eu_6 : u_6 = (ag, bo, bs) := congrArg Prod.snd (hpo_6.trans (ef_6))
          subst eu_6
          subst er_6
          have hP : va_P D vwCl (ZW cI cB a y 0 n st ik td nd nh bs ktd knd knh kbs pg kd ag pa bo dm dn hh hn kag kpa kbo kdm kdn khh khn wb ps ty wa wc ga tt ow) H1 := zx_join hP hD hP1 hk1
          have hD : va_D A (ZW cI cB a y 0 n st ik td nd nh bs ktd knd knh kbs pg kd ag pa bo dm dn hh hn kag kpa kbo kdm kdn khh khn wb ps ty wa wc ga tt ow) := hD.addr (ZW_addr.trans ZW_addr.symm)
          clear hP1 hk1
          generalize H1 = H at hP hS ⊢
          refine lv_bipush (v := (-101)) hx hb dL_law_1077 (by decide) ?_
          refine lv_icmp_ne (tgt := 1268) hx hb dL_law_1079 (by decide) (fun c_1079 => ?_) (fun c_1079 => ?_)
          · exact absurd rfl c_1079
          · skip
            refine lv_aload_n hx hb dL_law_1082 rfl (lv_at hl 1 rfl) ?_
            refine lv_iload hx hb dL_law_1083 (lv_at hl 9 rfl) ?_
            refine lv_iconst (v := (nI 0)) hx hb dL_law_1085 (by decide) ?_
            have hP_7 : va_P D vwCl (XW cI a 0 n st ik td nd nh bs ktd knd knh kbs pg kd ag pa bo dm dn hh hn kag kpa kbo kdm kdn khh khn wb ps ty) _ := P_X hP
            refine rdV (As := [.int (nI n), .int (nI 0)]) (rest := []) hx hb hml hown hg (c_X2_then l D cI cB aS _ 0 n st ik td nd nh bs ktd knd knh kbs pg kd ag pa bo dm dn hh hn kag kpa kbo kdm kdn khh khn wb ps ty (nI n) (nI 0) (by first | assumption | omega) (by first | assumption | omega)) gm_160 vf_X2_then ⟨Nat.le_of_ble_eq_true rfl, Nat.le_of_ble_eq_true rfl⟩ ⟨rfl, rfl⟩ hc (RP.preV hK hP_7 (q0 := 0) (ci := 2) XW_g0 rfl) rfl hl.1 rfl (Nat.le_of_ble_eq_true rfl) dL_law_1086 ?_
            rw [show ((thF n td kd ag pa (nI n) (nI 0)) : Int32) = (-101) from rf_th1]
            refine lv_bipush (v := (-101)) hx hb dL_law_1089 (by decide) ?_
            refine lv_icmp_ne (tgt := 1268) hx hb dL_law_1091 (by decide) (fun c_1091 => ?_) (fun c_1091 => ?_)
            · exact absurd rfl c_1091
            · skip
              refine lv_aload_n hx hb dL_law_1094 rfl (lv_at hl 1 rfl) ?_
              refine lv_iconst (v := (nI 0)) hx hb dL_law_1095 (by decide) ?_
              refine lv_aload_n hx hb dL_law_1096 rfl (lv_at hl 2 rfl) ?_
              refine lv_iconst (v := (nI 1)) hx hb dL_law_1097 (by decide) ?_
              refine nv_iald hx hb hK.1 hP 41 0 ZW_g41 rfl (by omega) (by omega) dL_law_1098 ?_
              rw [show ((wa 1) : Int32) = (nI td) from hw1]
              refine lv_iconst (v := (nI 1)) hx hb dL_law_1099 (by decide) ?_
              refine nv_iadd hx hb dL_law_1100 ?_
              have hP_8 : va_P D vwCl (XW cI a 0 n st ik td nd nh bs ktd knd knh kbs pg kd ag pa bo dm dn hh hn kag kpa kbo kdm kdn khh khn wb ps ty) _ := P_X hP
              refine rdV (As := [.int (nI 0), .int (nI (td + 1))]) (rest := []) hx hb hml hown hg (c_X2_then l D cI cB aS _ 0 n st ik td nd nh bs ktd knd knh kbs pg kd ag pa bo dm dn hh hn kag kpa kbo kdm kdn khh khn wb ps ty (nI 0) (nI (td + 1)) (by first | assumption | omega) (by first | assumption | omega)) gm_160 vf_X2_then ⟨Nat.le_of_ble_eq_true rfl, Nat.le_of_ble_eq_true rfl⟩ ⟨rfl, rfl⟩ hc (RP.preV hK hP_8 (q0 := 0) (ci := 2) XW_g0 rfl) rfl hl.1 rfl (Nat.le_of_ble_eq_true rfl) dL_law_1101 ?_
              rw [show ((thF n td kd ag pa (nI 0) (nI (td + 1))) : Int32) = (-101) from rf_th2 qt]
              refine lv_bipush (v := (-101)) hx hb dL_law_1104 (by decide) ?_
              refine lv_icmp_ne (tgt := 1268) hx hb dL_law_1106 (by decide) (fun c_1106 => ?_) (fun c_1106 => ?_)
              · exact absurd rfl c_1106
              · skip
                refine lv_aload_n hx hb dL_law_1109 rfl (lv_at hl 1 rfl) ?_
                refine lv_iconst (v := (nI 0)) hx hb dL_law_1110 (by decide) ?_
                refine lv_iconst (v := (-1)) hx hb dL_law_1111 (by decide) ?_
                have hP_9 : va_P D vwCl (XW cI a 0 n st ik td nd nh bs ktd knd knh kbs pg kd ag pa bo dm dn hh hn kag kpa kbo kdm kdn khh khn wb ps ty) _ := P_X hP
                refine rdV (As := [.int (nI 0), .int (-1)]) (rest := []) hx hb hml hown hg (c_X2_then l D cI cB aS _ 0 n st ik td nd nh bs ktd knd knh kbs pg kd ag pa bo dm dn hh hn kag kpa kbo kdm kdn khh khn wb ps ty (nI 0) (-1) (by first | assumption | omega) (by first | assumption | omega)) gm_160 vf_X2_then ⟨Nat.le_of_ble_eq_true rfl, Nat.le_of_ble_eq_true rfl⟩ ⟨rfl, rfl⟩ hc (RP.preV hK hP_9 (q0 := 0) (ci := 2) XW_g0 rfl) rfl hl.1 rfl (Nat.le_of_ble_eq_true rfl) dL_law_1112 ?_
                rw [show ((thF n td kd ag pa (nI 0) (-1)) : Int32) = (-101) from rf_th3]
                refine lv_bipush (v := (-101)) hx hb dL_law_1115 (by decide) ?_
                refine lv_icmp_ne (tgt := 1268) hx hb dL_law_1117 (by decide) (fun c_1117 => ?_) (fun c_1117 => ?_)
                · exact absurd rfl c_1117
                · skip
                  refine lv_aload_n hx hb dL_law_1120 rfl (lv_at hl 1 rfl) ?_
                  refine lv_iconst (v := (nI 0)) hx hb dL_law_1121 (by decide) ?_
                  refine lv_aload_n hx hb dL_law_1122 rfl (lv_at hl 2 rfl) ?_
                  refine lv_iconst (v := (nI 1)) hx hb dL_law_1123 (by decide) ?_
                  refine nv_iald hx hb hK.1 hP 41 0 ZW_g41 rfl (by omega) (by omega) dL_law_1124 ?_
                  rw [show ((wa 1) : Int32) = (nI td) from hw1]
                  refine lv_iconst (v := (nI 1)) hx hb dL_law_1125 (by decide) ?_
                  refine nv_iadd hx hb dL_law_1126 ?_
                  have hP_10 : va_P D vwCl (XW cI a 0 n st ik td nd nh bs ktd knd knh kbs pg kd ag pa bo dm dn hh hn kag kpa kbo kdm kdn khh khn wb ps ty) _ := P_X hP
                  refine rdV (As := [.int (nI 0), .int (nI (td + 1))]) (rest := []) hx hb hml hown hg (c_X2_goesTo l D cI cB aS _ 0 n st ik td nd nh bs ktd knd knh kbs pg kd ag pa bo dm dn hh hn kag kpa kbo kdm kdn khh khn wb ps ty (nI 0) (nI (td + 1)) (by first | assumption | omega) (by first | assumption | omega)) gm_167 vf_X2_goesTo ⟨Nat.le_of_ble_eq_true rfl, Nat.le_of_ble_eq_true rfl⟩ ⟨rfl, rfl⟩ hc (RP.preV hK hP_10 (q0 := 0) (ci := 2) XW_g0 rfl) rfl hl.1 rfl (Nat.le_of_ble_eq_true rfl) dL_law_1127 ?_
                  rw [show ((goF n td kd ag pa (nI 0) (nI (td + 1))) : Int32) = (-101) from rf_go qt]
                  refine lv_bipush (v := (-101)) hx hb dL_law_1130 (by decide) ?_
                  refine lv_icmp_ne (tgt := 1268) hx hb dL_law_1132 (by decide) (fun c_1132 => ?_) (fun c_1132 => ?_)
                  · exact absurd rfl c_1132
                  · skip
                    refine lv_aload_n hx hb dL_law_1135 rfl (lv_at hl 1 rfl) ?_
                    refine lv_iconst (v := (nI 0)) hx hb dL_law_1136 (by decide) ?_
                    refine lv_iconst (v := (nI 0)) hx hb dL_law_1137 (by decide) ?_
                    have hP_11 : va_P D vwCl (XW cI a 0 n st ik td nd nh bs ktd knd knh kbs pg kd ag pa bo dm dn hh hn kag kpa kbo kdm kdn khh khn wb ps ty) _ := P_X hP
                    refine wrVi (As := [.int (nI 0), .int (nI 0)]) (rest := []) hx hb hml hown hg (c_X2_debt l D cI cB aS _ 0 n st ik td nd nh bs ktd knd knh kbs pg kd ag pa bo dm dn hh hn kag kpa kbo kdm kdn khh khn wb ps ty (nI 0) (nI 0) ((D_X hD).weaken (fun _ _ _ _ => trivial)) (by first | assumption | omega) (by first | assumption | omega)) gm_184 vf_X2_debt ⟨Nat.le_of_ble_eq_true rfl, Nat.le_of_ble_eq_true rfl⟩ ⟨rfl, rfl⟩ hc (RP.preV hK hP_11 (q0 := 0) (ci := 2) XW_g0 rfl) rfl hl.1 rfl (Nat.le_of_ble_eq_true rfl) dL_law_1138 hS (inW_all (D_X hD)) (fun r_12 u_12 H1 locs hpo_12 hP1 hk1 hS => ?_)
                    have ef_12 : debF n nd dm dn (nI 0) (nI 0) = ((-102), dm, dn, nd) := rf_d1
                    have er_12 : r_12 = (-102) := congrArg Prod.fst (hpo_12.trans (ef_12))
                    have eu_12 : u_12 = (dm, dn, nd) := congrArg Prod.snd (hpo_12.trans (ef_12))
                    subst eu_12
                    subst er_12
                    have hP : va_P D vwCl (ZW cI cB a y 0 n st ik td nd nh bs ktd knd knh kbs pg kd ag pa bo dm dn hh hn kag kpa kbo kdm kdn khh khn wb ps ty wa wc ga tt ow) H1 := zx_join hP hD hP1 hk1
                    have hD : va_D A (ZW cI cB a y 0 n st ik td nd nh bs ktd knd knh kbs pg kd ag pa bo dm dn hh hn kag kpa kbo kdm kdn khh khn wb ps ty wa wc ga tt ow) := hD.addr (ZW_addr.trans ZW_addr.symm)
                    clear hP1 hk1
                    generalize H1 = H at hP hS ⊢
                    refine lv_bipush (v := (-102)) hx hb dL_law_1141 (by decide) ?_
                    refine lv_icmp_ne (tgt := 1268) hx hb dL_law_1143 (by decide) (fun c_1143 => ?_) (fun c_1143 => ?_)
                    · exact absurd rfl c_1143
                    · skip
                      refine lv_aload_n hx hb dL_law_1146 rfl (lv_at hl 1 rfl) ?_
                      refine lv_bipush (v := (nI 10)) hx hb dL_law_1147 (by decide) ?_
                      refine lv_iconst (v := (nI 0)) hx hb dL_law_1149 (by decide) ?_
                      have hP_13 : va_P D vwCl (XW cI a 0 n st ik td nd nh bs ktd knd knh kbs pg kd ag pa bo dm dn hh hn kag kpa kbo kdm kdn khh khn wb ps ty) _ := P_X hP
                      refine wrVi (As := [.int (nI 10), .int (nI 0)]) (rest := []) hx hb hml hown hg (c_X2_debt l D cI cB aS _ 0 n st ik td nd nh bs ktd knd knh kbs pg kd ag pa bo dm dn hh hn kag kpa kbo kdm kdn khh khn wb ps ty (nI 10) (nI 0) ((D_X hD).weaken (fun _ _ _ _ => trivial)) (by first | assumption | omega) (by first | assumption | omega)) gm_184 vf_X2_debt ⟨Nat.le_of_ble_eq_true rfl, Nat.le_of_ble_eq_true rfl⟩ ⟨rfl, rfl⟩ hc (RP.preV hK hP_13 (q0 := 0) (ci := 2) XW_g0 rfl) rfl hl.1 rfl (Nat.le_of_ble_eq_true rfl) dL_law_1150 hS (inW_all (D_X hD)) (fun r_14 u_14 H1 locs hpo_14 hP1 hk1 hS => ?_)
                      have ef_14 : debF n nd dm dn (nI 10) (nI 0) = ((-102), dm, dn, nd) := rf_d2
                      have er_14 : r_14 = (-102) := congrArg Prod.fst (hpo_14.trans (ef_14))
                      have eu_14 : u_14 = (dm, dn, nd) := congrArg Prod.snd (hpo_14.trans (ef_14))
                      subst eu_14
                      subst er_14
                      have hP : va_P D vwCl (ZW cI cB a y 0 n st ik td nd nh bs ktd knd knh kbs pg kd ag pa bo dm dn hh hn kag kpa kbo kdm kdn khh khn wb ps ty wa wc ga tt ow) H1 := zx_join hP hD hP1 hk1
                      have hD : va_D A (ZW cI cB a y 0 n st ik td nd nh bs ktd knd knh kbs pg kd ag pa bo dm dn hh hn kag kpa kbo kdm kdn khh khn wb ps ty wa wc ga tt ow) := hD.addr (ZW_addr.trans ZW_addr.symm)
                      clear hP1 hk1
                      generalize H1 = H at hP hS ⊢
                      refine lv_bipush (v := (-102)) hx hb dL_law_1153 (by decide) ?_
                      refine lv_icmp_ne (tgt := 1268) hx hb dL_law_1155 (by decide) (fun c_1155 => ?_) (fun c_1155 => ?_)
                      · exact absurd rfl c_1155
                      · skip
                        refine lv_aload_n hx hb dL_law_1158 rfl (lv_at hl 1 rfl) ?_
                        refine lv_iconst (v := (nI 1)) hx hb dL_law_1159 (by decide) ?_
                        refine lv_bipush (v := (nI 100)) hx hb dL_law_1160 (by decide) ?_
                        have hP_15 : va_P D vwCl (XW cI a 0 n st ik td nd nh bs ktd knd knh kbs pg kd ag pa bo dm dn hh hn kag kpa kbo kdm kdn khh khn wb ps ty) _ := P_X hP
                        refine wrVi (As := [.int (nI 1), .int (nI 100)]) (rest := []) hx hb hml hown hg (c_X2_debt l D cI cB aS _ 0 n st ik td nd nh bs ktd knd knh kbs pg kd ag pa bo dm dn hh hn kag kpa kbo kdm kdn khh khn wb ps ty (nI 1) (nI 100) ((D_X hD).weaken (fun _ _ _ _ => trivial)) (by first | assumption | omega) (by first | assumption | omega)) gm_184 vf_X2_debt ⟨Nat.le_of_ble_eq_true rfl, Nat.le_of_ble_eq_true rfl⟩ ⟨rfl, rfl⟩ hc (RP.preV hK hP_15 (q0 := 0) (ci := 2) XW_g0 rfl) rfl hl.1 rfl (Nat.le_of_ble_eq_true rfl) dL_law_1162 hS (inW_all (D_X hD)) (fun r_16 u_16 H1 locs hpo_16 hP1 hk1 hS => ?_)
                        have ef_16 : debF n nd dm dn (nI 1) (nI 100) = ((-102), dm, dn, nd) := rf_d3
                        have er_16 : r_16 = (-102) := congrArg Prod.fst (hpo_16.trans (ef_16))
                        have eu_16 : u_16 = (dm, dn, nd) := congrArg Prod.snd (hpo_16.trans (ef_16))
                        subst eu_16
                        subst er_16
                        have hP : va_P D vwCl (ZW cI cB a y 0 n st ik td nd nh bs ktd knd knh kbs pg kd ag pa bo dm dn hh hn kag kpa kbo kdm kdn khh khn wb ps ty wa wc ga tt ow) H1 := zx_join hP hD hP1 hk1
                        have hD : va_D A (ZW cI cB a y 0 n st ik td nd nh bs ktd knd knh kbs pg kd ag pa bo dm dn hh hn kag kpa kbo kdm kdn khh khn wb ps ty wa wc ga tt ow) := hD.addr (ZW_addr.trans ZW_addr.symm)
                        clear hP1 hk1
                        generalize H1 = H at hP hS ⊢
                        refine lv_bipush (v := (-102)) hx hb dL_law_1165 (by decide) ?_
                        refine lv_icmp_ne (tgt := 1268) hx hb dL_law_1167 (by decide) (fun c_1167 => ?_) (fun c_1167 => ?_)
                        · exact absurd rfl c_1167
                        · skip
                          refine lv_aload_n hx hb dL_law_1170 rfl (lv_at hl 1 rfl) ?_
                          refine lv_iconst (v := (nI 1)) hx hb dL_law_1171 (by decide) ?_
                          refine lv_iconst (v := (-1)) hx hb dL_law_1172 (by decide) ?_
                          have hP_17 : va_P D vwCl (XW cI a 0 n st ik td nd nh bs ktd knd knh kbs pg kd ag pa bo dm dn hh hn kag kpa kbo kdm kdn khh khn wb ps ty) _ := P_X hP
                          refine wrVi (As := [.int (nI 1), .int (-1)]) (rest := []) hx hb hml hown hg (c_X2_debt l D cI cB aS _ 0 n st ik td nd nh bs ktd knd knh kbs pg kd ag pa bo dm dn hh hn kag kpa kbo kdm kdn khh khn wb ps ty (nI 1) (-1) ((D_X hD).weaken (fun _ _ _ _ => trivial)) (by first | assumption | omega) (by first | assumption | omega)) gm_184 vf_X2_debt ⟨Nat.le_of_ble_eq_true rfl, Nat.le_of_ble_eq_true rfl⟩ ⟨rfl, rfl⟩ hc (RP.preV hK hP_17 (q0 := 0) (ci := 2) XW_g0 rfl) rfl hl.1 rfl (Nat.le_of_ble_eq_true rfl) dL_law_1173 hS (inW_all (D_X hD)) (fun r_18 u_18 H1 locs hpo_18 hP1 hk1 hS => ?_)
                          have ef_18 : debF n nd dm dn (nI 1) (-1) = ((-102), dm, dn, nd) := rf_d4
                          have er_18 : r_18 = (-102) := congrArg Prod.fst (hpo_18.trans (ef_18))
                          have eu_18 : u_18 = (dm, dn, nd) := congrArg Prod.snd (hpo_18.trans (ef_18))
                          subst eu_18
                          subst er_18
                          have hP : va_P D vwCl (ZW cI cB a y 0 n st ik td nd nh bs ktd knd knh kbs pg kd ag pa bo dm dn hh hn kag kpa kbo kdm kdn khh khn wb ps ty wa wc ga tt ow) H1 := zx_join hP hD hP1 hk1
                          have hD : va_D A (ZW cI cB a y 0 n st ik td nd nh bs ktd knd knh kbs pg kd ag pa bo dm dn hh hn kag kpa kbo kdm kdn khh khn wb ps ty wa wc ga tt ow) := hD.addr (ZW_addr.trans ZW_addr.symm)
                          clear hP1 hk1
                          generalize H1 = H at hP hS ⊢
                          refine lv_bipush (v := (-102)) hx hb dL_law_1176 (by decide) ?_
                          refine lv_icmp_ne (tgt := 1268) hx hb dL_law_1178 (by decide) (fun c_1178 => ?_) (fun c_1178 => ?_)
                          · exact absurd rfl c_1178
                          · skip
                            refine lv_aload_n hx hb dL_law_1181 rfl (lv_at hl 1 rfl) ?_
                            refine lv_iload hx hb dL_law_1182 (lv_at hl 9 rfl) ?_
                            refine lv_iconst (v := (nI 0)) hx hb dL_law_1184 (by decide) ?_
                            have hP_19 : va_P D vwCl (XW cI a 0 n st ik td nd nh bs ktd knd knh kbs pg kd ag pa bo dm dn hh hn kag kpa kbo kdm kdn khh khn wb ps ty) _ := P_X hP
                            refine rdV (As := [.int (nI n), .int (nI 0)]) (rest := []) hx hb hml hown hg (c_X2_when l D cI cB aS _ 0 n st ik td nd nh bs ktd knd knh kbs pg kd ag pa bo dm dn hh hn kag kpa kbo kdm kdn khh khn wb ps ty (nI n) (nI 0) (by first | assumption | omega)) gm_192 vf_X2_when ⟨Nat.le_of_ble_eq_true rfl, Nat.le_of_ble_eq_true rfl⟩ ⟨rfl, rfl⟩ hc (RP.preV hK hP_19 (q0 := 0) (ci := 2) XW_g0 rfl) rfl hl.1 rfl (Nat.le_of_ble_eq_true rfl) dL_law_1185 ?_
                            rw [show ((whnF n kd ag (nI n) (nI 0)) : Int32) = (-101) from rf_w1]
                            refine lv_bipush (v := (-101)) hx hb dL_law_1188 (by decide) ?_
                            refine lv_icmp_ne (tgt := 1268) hx hb dL_law_1190 (by decide) (fun c_1190 => ?_) (fun c_1190 => ?_)
                            · exact absurd rfl c_1190
                            · skip
                              refine lv_aload_n hx hb dL_law_1193 rfl (lv_at hl 1 rfl) ?_
                              refine lv_iconst (v := (nI 0)) hx hb dL_law_1194 (by decide) ?_
                              refine lv_iconst (v := (-1)) hx hb dL_law_1195 (by decide) ?_
                              have hP_20 : va_P D vwCl (XW cI a 0 n st ik td nd nh bs ktd knd knh kbs pg kd ag pa bo dm dn hh hn kag kpa kbo kdm kdn khh khn wb ps ty) _ := P_X hP
                              refine rdV (As := [.int (nI 0), .int (-1)]) (rest := []) hx hb hml hown hg (c_X2_when l D cI cB aS _ 0 n st ik td nd nh bs ktd knd knh kbs pg kd ag pa bo dm dn hh hn kag kpa kbo kdm kdn khh khn wb ps ty (nI 0) (-1) (by first | assumption | omega)) gm_192 vf_X2_when ⟨Nat.le_of_ble_eq_true rfl, Nat.le_of_ble_eq_true rfl⟩ ⟨rfl, rfl⟩ hc (RP.preV hK hP_20 (q0 := 0) (ci := 2) XW_g0 rfl) rfl hl.1 rfl (Nat.le_of_ble_eq_true rfl) dL_law_1196 ?_
                              rw [show ((whnF n kd ag (nI 0) (-1)) : Int32) = (-1) from rf_w2 hzI]
                              refine lv_iconst (v := (-1)) hx hb dL_law_1199 (by decide) ?_
                              refine lv_icmp_ne (tgt := 1268) hx hb dL_law_1200 (by decide) (fun c_1200 => ?_) (fun c_1200 => ?_)
                              · exact absurd rfl c_1200
                              · skip
                                refine lv_aload_n hx hb dL_law_1203 rfl (lv_at hl 1 rfl) ?_
                                refine lv_iconst (v := (nI 0)) hx hb dL_law_1204 (by decide) ?_
                                refine lv_iconst (v := (nI 1)) hx hb dL_law_1205 (by decide) ?_
                                refine lv_iconst (v := (nI 0)) hx hb dL_law_1206 (by decide) ?_
                                have hP_21 : va_P D vwCl (XW cI a 0 n st ik td nd nh bs ktd knd knh kbs pg kd ag pa bo dm dn hh hn kag kpa kbo kdm kdn khh khn wb ps ty) _ := P_X hP
                                refine wrVi (As := [.int (nI 0), .int (nI 1), .int (nI 0)]) (rest := []) hx hb hml hown hg (c_X2_years l D cI cB aS _ 0 n st ik td nd nh bs ktd knd knh kbs pg kd ag pa bo dm dn hh hn kag kpa kbo kdm kdn khh khn wb ps ty (nI 0) (nI 1) (nI 0) ((D_X hD).weaken (fun _ _ _ _ => trivial)) (by first | assumption | omega)) gm_196 vf_X2_years ⟨Nat.le_of_ble_eq_true rfl, Nat.le_of_ble_eq_true rfl⟩ ⟨rfl, rfl⟩ hc (RP.preV hK hP_21 (q0 := 0) (ci := 2) XW_g0 rfl) rfl hl.1 rfl (Nat.le_of_ble_eq_true rfl) dL_law_1207 hS (inW_all (D_X hD)) (fun r_22 u_22 H1 locs hpo_22 hP1 hk1 hS => ?_)
                                have hP : va_P D vwCl (ZW cI cB a y 0 n st ik td nd nh bs ktd knd knh kbs pg kd ag pa bo dm dn hh hn kag kpa kbo kdm kdn khh khn u_22 ps ty wa wc ga tt ow) H1 := zx_join hP hD hP1 hk1
                                have hD : va_D A (ZW cI cB a y 0 n st ik td nd nh bs ktd knd knh kbs pg kd ag pa bo dm dn hh hn kag kpa kbo kdm kdn khh khn u_22 ps ty wa wc ga tt ow) := hD.addr (ZW_addr.trans ZW_addr.symm)
                                clear hP1 hk1
                                generalize H1 = H at hP hS ⊢
                                have hpo_22 : r_22 = (yrF n kd ag (nI 0) (nI 1) (nI 0)) := hpo_22
                                subst hpo_22
                                rw [rf_y1]
                                refine lv_bipush (v := (-102)) hx hb dL_law_1210 (by decide) ?_
                                refine lv_icmp_ne (tgt := 1268) hx hb dL_law_1212 (by decide) (fun c_1212 => ?_) (fun c_1212 => ?_)
                                · exact absurd rfl c_1212
                                · skip
                                  refine lv_aload_n hx hb dL_law_1215 rfl (lv_at hl 1 rfl) ?_
                                  refine lv_bipush (v := (nI 61)) hx hb dL_law_1216 (by decide) ?_
                                  refine lv_iconst (v := (nI 1)) hx hb dL_law_1218 (by decide) ?_
                                  refine lv_iconst (v := (nI 0)) hx hb dL_law_1219 (by decide) ?_
                                  have hP_23 : va_P D vwCl (XW cI a 0 n st ik td nd nh bs ktd knd knh kbs pg kd ag pa bo dm dn hh hn kag kpa kbo kdm kdn khh khn u_22 ps ty) _ := P_X hP
                                  refine wrVi (As := [.int (nI 61), .int (nI 1), .int (nI 0)]) (rest := []) hx hb hml hown hg (c_X2_years l D cI cB aS _ 0 n st ik td nd nh bs ktd knd knh kbs pg kd ag pa bo dm dn hh hn kag kpa kbo kdm kdn khh khn u_22 ps ty (nI 61) (nI 1) (nI 0) ((D_X hD).weaken (fun _ _ _ _ => trivial)) (by first | assumption | omega)) gm_196 vf_X2_years ⟨Nat.le_of_ble_eq_true rfl, Nat.le_of_ble_eq_true rfl⟩ ⟨rfl, rfl⟩ hc (RP.preV hK hP_23 (q0 := 0) (ci := 2) XW_g0 rfl) rfl hl.1 rfl (Nat.le_of_ble_eq_true rfl) dL_law_1220 hS (inW_all (D_X hD)) (fun r_24 u_24 H1 locs hpo_24 hP1 hk1 hS => ?_)
                                  have hP : va_P D vwCl (ZW cI cB a y 0 n st ik td nd nh bs ktd knd knh kbs pg kd ag pa bo dm dn hh hn kag kpa kbo kdm kdn khh khn u_24 ps ty wa wc ga tt ow) H1 := zx_join hP hD hP1 hk1
                                  have hD : va_D A (ZW cI cB a y 0 n st ik td nd nh bs ktd knd knh kbs pg kd ag pa bo dm dn hh hn kag kpa kbo kdm kdn khh khn u_24 ps ty wa wc ga tt ow) := hD.addr (ZW_addr.trans ZW_addr.symm)
                                  clear hP1 hk1
                                  generalize H1 = H at hP hS ⊢
                                  have hpo_24 : r_24 = (yrF n kd ag (nI 61) (nI 1) (nI 0)) := hpo_24
                                  subst hpo_24
                                  rw [rf_y2]
                                  refine lv_bipush (v := (-102)) hx hb dL_law_1223 (by decide) ?_
                                  refine lv_icmp_ne (tgt := 1268) hx hb dL_law_1225 (by decide) (fun c_1225 => ?_) (fun c_1225 => ?_)
                                  · exact absurd rfl c_1225
                                  · skip
                                    refine lv_aload_n hx hb dL_law_1228 rfl (lv_at hl 1 rfl) ?_
                                    refine lv_iconst (v := (nI 1)) hx hb dL_law_1229 (by decide) ?_
                                    refine lv_iconst (v := (-1)) hx hb dL_law_1230 (by decide) ?_
                                    refine lv_iconst (v := (nI 0)) hx hb dL_law_1231 (by decide) ?_
                                    have hP_25 : va_P D vwCl (XW cI a 0 n st ik td nd nh bs ktd knd knh kbs pg kd ag pa bo dm dn hh hn kag kpa kbo kdm kdn khh khn u_24 ps ty) _ := P_X hP
                                    refine wrVi (As := [.int (nI 1), .int (-1), .int (nI 0)]) (rest := []) hx hb hml hown hg (c_X2_years l D cI cB aS _ 0 n st ik td nd nh bs ktd knd knh kbs pg kd ag pa bo dm dn hh hn kag kpa kbo kdm kdn khh khn u_24 ps ty (nI 1) (-1) (nI 0) ((D_X hD).weaken (fun _ _ _ _ => trivial)) (by first | assumption | omega)) gm_196 vf_X2_years ⟨Nat.le_of_ble_eq_true rfl, Nat.le_of_ble_eq_true rfl⟩ ⟨rfl, rfl⟩ hc (RP.preV hK hP_25 (q0 := 0) (ci := 2) XW_g0 rfl) rfl hl.1 rfl (Nat.le_of_ble_eq_true rfl) dL_law_1232 hS (inW_all (D_X hD)) (fun r_26 u_26 H1 locs hpo_26 hP1 hk1 hS => ?_)
                                    have hP : va_P D vwCl (ZW cI cB a y 0 n st ik td nd nh bs ktd knd knh kbs pg kd ag pa bo dm dn hh hn kag kpa kbo kdm kdn khh khn u_26 ps ty wa wc ga tt ow) H1 := zx_join hP hD hP1 hk1
                                    have hD : va_D A (ZW cI cB a y 0 n st ik td nd nh bs ktd knd knh kbs pg kd ag pa bo dm dn hh hn kag kpa kbo kdm kdn khh khn u_26 ps ty wa wc ga tt ow) := hD.addr (ZW_addr.trans ZW_addr.symm)
                                    clear hP1 hk1
                                    generalize H1 = H at hP hS ⊢
                                    have hpo_26 : r_26 = (yrF n kd ag (nI 1) (-1) (nI 0)) := hpo_26
                                    subst hpo_26
                                    rw [rf_y3]
                                    refine lv_bipush (v := (-102)) hx hb dL_law_1235 (by decide) ?_
                                    refine lv_icmp_ne (tgt := 1268) hx hb dL_law_1237 (by decide) (fun c_1237 => ?_) (fun c_1237 => ?_)
                                    · exact absurd rfl c_1237
                                    · skip
                                      refine lv_aload_n hx hb dL_law_1240 rfl (lv_at hl 1 rfl) ?_
                                      refine lv_iconst (v := (nI 1)) hx hb dL_law_1241 (by decide) ?_
                                      refine lv_iconst (v := (nI 1)) hx hb dL_law_1242 (by decide) ?_
                                      refine lv_iconst (v := (nI 3)) hx hb dL_law_1243 (by decide) ?_
                                      have hP_27 : va_P D vwCl (XW cI a 0 n st ik td nd nh bs ktd knd knh kbs pg kd ag pa bo dm dn hh hn kag kpa kbo kdm kdn khh khn u_26 ps ty) _ := P_X hP
                                      refine wrVi (As := [.int (nI 1), .int (nI 1), .int (nI 3)]) (rest := []) hx hb hml hown hg (c_X2_years l D cI cB aS _ 0 n st ik td nd nh bs ktd knd knh kbs pg kd ag pa bo dm dn hh hn kag kpa kbo kdm kdn khh khn u_26 ps ty (nI 1) (nI 1) (nI 3) ((D_X hD).weaken (fun _ _ _ _ => trivial)) (by first | assumption | omega)) gm_196 vf_X2_years ⟨Nat.le_of_ble_eq_true rfl, Nat.le_of_ble_eq_true rfl⟩ ⟨rfl, rfl⟩ hc (RP.preV hK hP_27 (q0 := 0) (ci := 2) XW_g0 rfl) rfl hl.1 rfl (Nat.le_of_ble_eq_true rfl) dL_law_1244 hS (inW_all (D_X hD)) (fun r_28 u_28 H1 locs hpo_28 hP1 hk1 hS => ?_)
                                      have hP : va_P D vwCl (ZW cI cB a y 0 n st ik td nd nh bs ktd knd knh kbs pg kd ag pa bo dm dn hh hn kag kpa kbo kdm kdn khh khn u_28 ps ty wa wc ga tt ow) H1 := zx_join hP hD hP1 hk1
                                      have hD : va_D A (ZW cI cB a y 0 n st ik td nd nh bs ktd knd knh kbs pg kd ag pa bo dm dn hh hn kag kpa kbo kdm kdn khh khn u_28 ps ty wa wc ga tt ow) := hD.addr (ZW_addr.trans ZW_addr.symm)
                                      clear hP1 hk1
                                      generalize H1 = H at hP hS ⊢
                                      have hpo_28 : r_28 = (yrF n kd ag (nI 1) (nI 1) (nI 3)) := hpo_28
                                      subst hpo_28
                                      rw [rf_y4]
                                      refine lv_bipush (v := (-102)) hx hb dL_law_1247 (by decide) ?_
                                      refine lv_icmp_ne (tgt := 1268) hx hb dL_law_1249 (by decide) (fun c_1249 => ?_) (fun c_1249 => ?_)
                                      · exact absurd rfl c_1249
                                      · skip
                                        refine lv_aload_n hx hb dL_law_1252 rfl (lv_at hl 1 rfl) ?_
                                        have hP_29 : va_P D vwCl (XW cI a 0 n st ik td nd nh bs ktd knd knh kbs pg kd ag pa bo dm dn hh hn kag kpa kbo kdm kdn khh khn u_28 ps ty) _ := P_X hP
                                        refine wrVi (As := []) (rest := []) hx hb hml hown hg (c_X2_pay l D cI cB aS _ 0 n st ik td nd nh bs ktd knd knh kbs pg kd ag pa bo dm dn hh hn kag kpa kbo kdm kdn khh khn u_28 ps ty ((D_X hD).weaken (fun _ _ _ _ => trivial)) (by first | assumption | omega)) gm_188 vf_X2_pay ⟨Nat.le_of_ble_eq_true rfl, Nat.le_of_ble_eq_true rfl⟩ ⟨rfl, rfl⟩ hc (RP.preV hK hP_29 (q0 := 0) (ci := 2) XW_g0 rfl) rfl hl.1 rfl (Nat.le_of_ble_eq_true rfl) dL_law_1253 hS (inW_all (D_X hD)) (fun r_30 u_30 H1 locs hpo_30 hP1 hk1 hS => ?_)
                                        have hP : va_P D vwCl (ZW cI cB a y 0 n st ik td 0 nh bs ktd knd knh kbs pg kd ag pa bo dm dn hh hn kag kpa kbo kdm kdn khh khn u_28 ps ty wa wc ga tt ow) H1 := zx_join hP hD hP1 hk1
                                        have hD : va_D A (ZW cI cB a y 0 n st ik td 0 nh bs ktd knd knh kbs pg kd ag pa bo dm dn hh hn kag kpa kbo kdm kdn khh khn u_28 ps ty wa wc ga tt ow) := hD.addr (ZW_addr.trans ZW_addr.symm)
                                        clear hP1 hk1
                                        generalize H1 = H at hP hS ⊢
                                        have hpo_30 : r_30 = (sm dm nd) := hpo_30
                                        subst hpo_30
                                        refine lv_iload hx hb dL_law_1256 (lv_at hl 10 rfl) ?_
                                        refine lv_icmp_ne (tgt := 1268) hx hb dL_law_1258 (by decide) (fun c_1258 => ?_) (fun c_1258 => ?_)
                                        · exact absurd how.symm c_1258
                                        · skip
                                          refine lv_aload_n hx hb dL_law_1261 rfl (lv_at hl 1 rfl) ?_
                                          have hP_31 : va_P D vwCl (XW cI a 0 n st ik td 0 nh bs ktd knd knh kbs pg kd ag pa bo dm dn hh hn kag kpa kbo kdm kdn khh khn u_28 ps ty) _ := P_X hP
                                          refine wrVi (As := []) (rest := []) hx hb hml hown hg (c_X2_pay l D cI cB aS _ 0 n st ik td 0 nh bs ktd knd knh kbs pg kd ag pa bo dm dn hh hn kag kpa kbo kdm kdn khh khn u_28 ps ty ((D_X hD).weaken (fun _ _ _ _ => trivial)) (by first | assumption | omega)) gm_188 vf_X2_pay ⟨Nat.le_of_ble_eq_true rfl, Nat.le_of_ble_eq_true rfl⟩ ⟨rfl, rfl⟩ hc (RP.preV hK hP_31 (q0 := 0) (ci := 2) XW_g0 rfl) rfl hl.1 rfl (Nat.le_of_ble_eq_true rfl) dL_law_1262 hS (inW_all (D_X hD)) (fun r_32 u_32 H1 locs hpo_32 hP1 hk1 hS => ?_)
                                          have hP : va_P D vwCl (ZW cI cB a y 0 n st ik td 0 nh bs ktd knd knh kbs pg kd ag pa bo dm dn hh hn kag kpa kbo kdm kdn khh khn u_28 ps ty wa wc ga tt ow) H1 := zx_join hP hD hP1 hk1
                                          have hD : va_D A (ZW cI cB a y 0 n st ik td 0 nh bs ktd knd knh kbs pg kd ag pa bo dm dn hh hn kag kpa kbo kdm kdn khh khn u_28 ps ty wa wc ga tt ow) := hD.addr (ZW_addr.trans ZW_addr.symm)
                                          clear hP1 hk1
                                          generalize H1 = H at hP hS ⊢
                                          have hpo_32 : r_32 = (sm dm 0) := hpo_32
                                          subst hpo_32
                                          refine lv_if_eq (tgt := 1270) hx hb dL_law_1265 (by decide) (fun (c_1265 : (sm dm 0) = nI 0) => ?_) (fun (c_1265 : ¬ (sm dm 0) = nI 0) => ?_)
                                          · skip
                                            exact kk _ _ _ (zT.of (fun _ => hzI) hP hS) (lv_sub hl [0, 1, 2, 3, 4, 5, 6, 7] rfl)
                                          · exact absurd rfl c_1265
