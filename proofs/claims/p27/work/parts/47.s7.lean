set_option maxRecDepth 100000 in
set_option maxHeartbeats 8000000 in
theorem law_days {p : Program} {l : Launch} {e : Env} {s : State} {m : MethodId} {below : List Frame} {meth : Method} {c : Code} {D : va_G} {cI cB : ClassId} {aS aV : Nat} {A : Nat → Prop} {a y : Nat → Nat} {q L : Nat} {xs : Nat → Int32} (hr : meth.sig.returnType = ret) (hlocks : meth.locks = false) (C : zC p s m c #[Value.ref q] D cI cB aS aV A a y q L xs) (hAo : ∀ r, A r → s.heap.size ≤ r) {trip : Nat} (ht0 : ¬ trip = 0) {H : Heap} {locs : List Loc} {ls : Array Slot} (T : zT D cI cB A a y s trip H locs) (hl : lv_has ls 25 [(0, .ref q), (1, .ref (a 0)), (2, .ref (y 0)), (3, .ref (y 1)), (4, .ref (y 2)), (5, .ref (y 3)), (6, .ref (y 4)), (7, .int (nI trip))])  : W p l e room_1 s m #[Value.ref q] below meth c H locs 46 670 (lw_Z below #[Value.ref q] s) (F0 m 1276 ls []) := by
  obtain ⟨hx, hb, hml, hown, hg, hK, hE, hX, hbl, hbA, hL, hDZ⟩ := C
  obtain ⟨n, st, ik, td, nh, bs, ktd, knd, knh, kbs, pg, kd, ag, pa, bo, dm, dn, hh, hn, kag, kpa, kbo, kdm, kdn, khh, khn, wb, ps, ty, wa, wc, ga, tt, ow, hzT, hP, hS⟩ := T
  have hzI := hzT ht0
  obtain ⟨h2n, hn6, qt, hw0, hw1, hw2, hho, hg9⟩ := id hzI
  have hc : 46 ≤ room_1.cells ∧ 670 ≤ room_1.slots := ⟨Nat.le_of_ble_eq_true rfl, Nat.le_of_ble_eq_true rfl⟩
  have hD : va_D A (ZW cI cB a y 0 n st ik td 0 nh bs ktd knd knh kbs pg kd ag pa bo dm dn hh hn kag kpa kbo kdm kdn khh khn wb ps ty wa wc ga tt ow) := hDZ _ ZW_addr
  refine lv_aload_n hx hb dL_law_1276 rfl (lv_at hl 2 rfl) ?_
  refine lv_iconst (v := (nI 1)) hx hb dL_law_1277 (by decide) ?_
  refine nv_iald hx hb hK.1 hP 41 0 ZW_g41 rfl (by omega) (by omega) dL_law_1278 ?_
  rw [show ((wa 1) : Int32) = (nI td) from hw1]
  refine lv_istore (lv' := [(7, .int (nI td)), (0, .ref q), (1, .ref (a 0)), (2, .ref (y 0)), (3, .ref (y 1)), (4, .ref (y 2)), (5, .ref (y 3)), (6, .ref (y 4))]) hx hb dL_law_1279 hl (by decide) rfl (fun ls hl => ?_)
  -- loop at 1281
  refine loopW (nL := 25) (S := (Nat → Int32) × (Nat → Int32)) (B := 30) (I := fun i u => True) (lv := fun i u => [(0, .ref q), (1, .ref (a 0)), (2, .ref (y 0)), (3, .ref (y 1)), (4, .ref (y 2)), (5, .ref (y 3)), (6, .ref (y 4)), (7, .int (nI i))]) (wf := fun i u => ZW cI cB a y 0 n st ik i 0 nh bs ktd knd knh kbs pg kd u.1 u.2 bo dm dn hh hn kag kpa kbo kdm kdn khh khn wb ps ty wa wc ga tt ow) td (ag, pa) (by omega) (trivial) (lv_sub hl [1, 2, 3, 4, 5, 6, 7, 0] rfl) hP (hD.addr (ZW_addr.trans ZW_addr.symm)) hS (fun i u ls H locs hj hI hl hP hD hS ih => ?_)
  have hP : va_P D vwCl (ZW cI cB a y 0 n st ik i 0 nh bs ktd knd knh kbs pg kd u.1 u.2 bo dm dn hh hn kag kpa kbo kdm kdn khh khn wb ps ty wa wc ga tt ow) H := hP
  have hD : va_D A (ZW cI cB a y 0 n st ik i 0 nh bs ktd knd knh kbs pg kd u.1 u.2 bo dm dn hh hn kag kpa kbo kdm kdn khh khn wb ps ty wa wc ga tt ow) := hD
  have hl : lv_has ls 25 [(0, .ref q), (1, .ref (a 0)), (2, .ref (y 0)), (3, .ref (y 1)), (4, .ref (y 2)), (5, .ref (y 3)), (6, .ref (y 4)), (7, .int (nI i))] := hl
  have ih_1281 := ih
  refine lv_iload hx hb dL_law_1281 (lv_at hl 7 rfl) ?_
  refine lv_bipush (v := (nI 30)) hx hb dL_law_1283 (by decide) ?_
  refine nv_icmp_ge (tgt := 1307) hx hb dL_law_1285 (by omega) (by omega) (by decide) (fun c_1285 => ?_) (fun c_1285 => ?_)
  · skip
    have ei : i = 30 := by omega
    rw [ei] at hP hD hl
    refine lv_aload_n hx hb dL_law_1307 rfl (lv_at hl 1 rfl) ?_
    have hP_1 : va_P D vwCl (XW cI a 0 n st ik 30 0 nh bs ktd knd knh kbs pg kd u.1 u.2 bo dm dn hh hn kag kpa kbo kdm kdn khh khn wb ps ty) _ := P_X hP
    refine wrVi (As := []) (rest := []) hx hb hml hown hg (c_X2_day l D cI cB aS _ 0 n st ik 30 0 nh bs ktd knd knh kbs pg kd u.1 u.2 bo dm dn hh hn kag kpa kbo kdm kdn khh khn wb ps ty ((D_X hD).weaken (fun _ _ _ _ => trivial)) (by first | assumption | omega) (by omega)) gm_150 vf_X2_day ⟨Nat.le_of_ble_eq_true rfl, Nat.le_of_ble_eq_true rfl⟩ ⟨rfl, rfl⟩ hc (RP.preV hK hP_1 (q0 := 0) (ci := 2) XW_g0 rfl) rfl hl.1 rfl (Nat.le_of_ble_eq_true rfl) dL_law_1308 hS (inW_all (D_X hD)) (fun r_2 u_2 H1 locs hpo_2 hP1 hk1 hS => ?_)
    have ef_2 : dayF n 30 kd (u.1) (u.2) = ((-104), u.1, u.2, 30) := by unfold dayF; rw [if_neg (by omega), if_pos rfl]
    have er_2 : r_2 = (-104) := congrArg Prod.fst (hpo_2.trans (ef_2))
    have eu_2 : u_2 = (u.1, u.2, 30) := congrArg Prod.snd (hpo_2.trans (ef_2))
    subst eu_2
    subst er_2
    have hP : va_P D vwCl (ZW cI cB a y 0 n st ik 30 0 nh bs ktd knd knh kbs pg kd u.1 u.2 bo dm dn hh hn kag kpa kbo kdm kdn khh khn wb ps ty wa wc ga tt ow) H1 := zx_join hP hD hP1 hk1
    have hD : va_D A (ZW cI cB a y 0 n st ik 30 0 nh bs ktd knd knh kbs pg kd u.1 u.2 bo dm dn hh hn kag kpa kbo kdm kdn khh khn wb ps ty wa wc ga tt ow) := hD.addr (ZW_addr.trans ZW_addr.symm)
    clear hP1 hk1
    generalize H1 = H at hP hS ⊢
    refine lv_bipush (v := (-104)) hx hb dL_law_1311 (by decide) ?_
    refine lv_icmp_ne (tgt := 1330) hx hb dL_law_1313 (by decide) (fun c_1313 => ?_) (fun c_1313 => ?_)
    · exact absurd rfl c_1313
    · skip
      refine lv_aload_n hx hb dL_law_1316 rfl (lv_at hl 1 rfl) ?_
      refine lv_iconst (v := (nI 1)) hx hb dL_law_1317 (by decide) ?_
      have hP_3 : va_P D vwCl (XW cI a 0 n st ik 30 0 nh bs ktd knd knh kbs pg kd u.1 u.2 bo dm dn hh hn kag kpa kbo kdm kdn khh khn wb ps ty) _ := P_X hP
      refine rdV (As := [.int (nI 1)]) (rest := []) hx hb hml hown hg (c_X2_count l D cI cB aS _ 0 n st ik 30 0 nh bs ktd knd knh kbs pg kd u.1 u.2 bo dm dn hh hn kag kpa kbo kdm kdn khh khn wb ps ty (nI 1) (by first | assumption | omega) (by omega) (by omega)) gm_220 vf_X2_count ⟨Nat.le_of_ble_eq_true rfl, Nat.le_of_ble_eq_true rfl⟩ ⟨rfl, rfl⟩ hc (RP.preV hK hP_3 (q0 := 0) (ci := 2) XW_g0 rfl) rfl hl.1 rfl (Nat.le_of_ble_eq_true rfl) dL_law_1318 ?_
      rw [show ((cntF n 30 bs kd u.1 dm dn 0 nh 0 st (nI 1)) : Int32) = (nI 30) from ck_c1]
      refine lv_bipush (v := (nI 30)) hx hb dL_law_1321 (by decide) ?_
      refine nv_icmp_ne (tgt := 1330) hx hb dL_law_1323 (by omega) (by omega) (by decide) (fun c_1323 => ?_) (fun c_1323 => ?_)
      · exact absurd rfl c_1323
      · skip
        refine lv_iconst (v := (nI 1)) hx hb dL_law_1326 (by decide) ?_
        refine lv_goto (tgt := 1331) hx hb dL_law_1327 (by decide) ?_
        refine va_forget (fun r h9 => hAo _ (hS.2.2 r h9)) ?_
        refine W.widen (k := 600000) (n := 7302250) (by omega) (by omega) ?_
        exact lw_ret hx hb hr hlocks dL_law_1331
  · skip
    refine lv_aload_n hx hb dL_law_1288 rfl (lv_at hl 1 rfl) ?_
    have hP_4 : va_P D vwCl (XW cI a 0 n st ik i 0 nh bs ktd knd knh kbs pg kd u.1 u.2 bo dm dn hh hn kag kpa kbo kdm kdn khh khn wb ps ty) _ := P_X hP
    refine wrVi (As := []) (rest := []) hx hb hml hown hg (c_X2_day l D cI cB aS _ 0 n st ik i 0 nh bs ktd knd knh kbs pg kd u.1 u.2 bo dm dn hh hn kag kpa kbo kdm kdn khh khn wb ps ty ((D_X hD).weaken (fun _ _ _ _ => trivial)) (by first | assumption | omega) (by omega)) gm_150 vf_X2_day ⟨Nat.le_of_ble_eq_true rfl, Nat.le_of_ble_eq_true rfl⟩ ⟨rfl, rfl⟩ hc (RP.preV hK hP_4 (q0 := 0) (ci := 2) XW_g0 rfl) rfl hl.1 rfl (Nat.le_of_ble_eq_true rfl) dL_law_1289 hS (inW_all (D_X hD)) (fun r_5 u_5 H1 locs hpo_5 hP1 hk1 hS => ?_)
    have ef_5 : dayF n i kd (u.1) (u.2) = ((nI (i + 1)), groF kd (u.1) n, paF (u.1) (u.2) i n, i + 1) := by unfold dayF; rw [if_neg (by omega), if_neg (by omega)]
    have er_5 : r_5 = (nI (i + 1)) := congrArg Prod.fst (hpo_5.trans (ef_5))
    have eu_5 : u_5 = (groF kd (u.1) n, paF (u.1) (u.2) i n, i + 1) := congrArg Prod.snd (hpo_5.trans (ef_5))
    subst eu_5
    subst er_5
    have hP : va_P D vwCl (ZW cI cB a y 0 n st ik (i + 1) 0 nh bs ktd knd knh kbs pg kd (groF kd (u.1) n) (paF (u.1) (u.2) i n) bo dm dn hh hn kag kpa kbo kdm kdn khh khn wb ps ty wa wc ga tt ow) H1 := zx_join hP hD hP1 hk1
    have hD : va_D A (ZW cI cB a y 0 n st ik (i + 1) 0 nh bs ktd knd knh kbs pg kd (groF kd (u.1) n) (paF (u.1) (u.2) i n) bo dm dn hh hn kag kpa kbo kdm kdn khh khn wb ps ty wa wc ga tt ow) := hD.addr (ZW_addr.trans ZW_addr.symm)
    clear hP1 hk1
    generalize H1 = H at hP hS ⊢
    refine lv_iload hx hb dL_law_1292 (lv_at hl 7 rfl) ?_
    refine lv_iconst (v := (nI 1)) hx hb dL_law_1294 (by decide) ?_
    refine nv_iadd hx hb dL_law_1295 ?_
    refine nv_icmp_eq (tgt := 1301) hx hb dL_law_1296 (by omega) (by omega) (by decide) (fun c_1296 => ?_) (fun c_1296 => ?_)
    · skip
      refine lv_iinc (v := (nI (i + 1))) (lv' := [(7, .int (nI (i + 1))), (0, .ref q), (1, .ref (a 0)), (2, .ref (y 0)), (3, .ref (y 1)), (4, .ref (y 2)), (5, .ref (y 3)), (6, .ref (y 4))]) hx hb dL_law_1301 hl (k := 7) rfl (nI_i1 _) (by decide) rfl (fun ls hl => ?_)
      refine lv_goto (tgt := 1281) hx hb dL_law_1304 (by decide) ?_
      exact ih_1281 (groF kd (u.1) n, paF (u.1) (u.2) i n) _ _ _ (by omega) (trivial) (lv_sub hl [1, 2, 3, 4, 5, 6, 7, 0] rfl) hP (hD.addr (ZW_addr.trans ZW_addr.symm)) hS
    · exact absurd rfl c_1296
