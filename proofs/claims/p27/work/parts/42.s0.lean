theorem sf_L_cell : sfacts RL yL_cell cL_cell 2 (some .int) 2 := ⟨⟨rfl, by decide +kernel, by decide +kernel, by decide +kernel⟩, gm_231, gm_1, gm_232⟩
theorem sf_L_street : sfacts RL yL_street cL_street 7 (some .boolean) 4 := ⟨⟨rfl, by decide +kernel, by decide +kernel, by decide +kernel⟩, gm_235, gm_1, gm_236⟩
theorem vf_X2_pay : vfacts RX2 yX2_pay cX2_pay 3 (some .int) 0 := ⟨⟨rfl, by decide +kernel, by decide +kernel, by decide +kernel⟩, gm_189, gm_190, gm_2, gm_191⟩
set_option maxRecDepth 100000 in
set_option maxHeartbeats 8000000 in
theorem law_street {p : Program} {l : Launch} {e : Env} {s : State} {m : MethodId} {args : Array Value} {below : List Frame} {meth : Method} {c : Code} {D : va_G} {cI cB : ClassId} {aS aV : Nat} {A : Nat → Prop} {a y : Nat → Nat} {q L : Nat} {xs : Nat → Int32} {cells slots : Nat} {Q : State → Prop} (C : zC p s m c args D cI cB aS aV A a y q L xs) (hc : cells ≤ room_1.cells ∧ slots ≤ room_1.slots) {trip : Nat} (ht2 : trip < 2) {H : Heap} {locs : List Loc} {ls : Array Slot} (T : zT D cI cB A a y s trip H locs) (hl : lv_has ls 25 [(0, .ref q), (1, .ref (a 0)), (2, .ref (y 0)), (3, .ref (y 1)), (4, .ref (y 2)), (5, .ref (y 3)), (6, .ref (y 4)), (7, .int (nI trip))]) (kk : ∀ (n : Nat) (H : Heap) (locs : List Loc) (ls : Array Slot), zJ D cI cB A a y s n 0 (nI 0) H locs → lv_has ls 25 [(0, .ref q), (1, .ref (a 0)), (2, .ref (y 0)), (3, .ref (y 1)), (4, .ref (y 2)), (5, .ref (y 3)), (6, .ref (y 4)), (7, .int (nI trip)), (8, .int (nI (29 * trip))), (9, .int (nI n)), (10, .int (nI 0)), (11, .int (nI 0)), (12, .int (nI 0))] → W p l e room_1 s m args below meth c H locs cells slots Q (F0 m 97 ls [])) : W p l e room_1 s m args below meth c H locs cells slots Q (F0 m 45 ls []) := by
  obtain ⟨hx, hb, hml, hown, hg, hK, hE, hX, hbl, hbA, hL, hDZ⟩ := C
  obtain ⟨n, st, ik, td, nh, bs, ktd, knd, knh, kbs, pg, kd, ag, pa, bo, dm, dn, hh, hn, kag, kpa, kbo, kdm, kdn, khh, khn, wb, ps, ty, wa, wc, ga, tt, ow, hzT, hP, hS⟩ := T
  have hD : va_D A (ZW cI cB a y 0 n st ik td 0 nh bs ktd knd knh kbs pg kd ag pa bo dm dn hh hn kag kpa kbo kdm kdn khh khn wb ps ty wa wc ga tt ow) := hDZ _ ZW_addr
  refine lv_bipush (v := (nI 29)) hx hb dL_law_45 (by decide) ?_
  refine lv_iload hx hb dL_law_47 (lv_at hl 7 rfl) ?_
  refine nv_imul hx hb dL_law_49 ?_
  refine lv_istore (lv' := [(8, .int (nI (29 * trip))), (0, .ref q), (1, .ref (a 0)), (2, .ref (y 0)), (3, .ref (y 1)), (4, .ref (y 2)), (5, .ref (y 3)), (6, .ref (y 4)), (7, .int (nI trip))]) hx hb dL_law_50 hl (by decide) rfl (fun ls hl => ?_)
  refine lv_aload_n hx hb dL_law_52 rfl (lv_at hl 2 rfl) ?_
  refine lv_aload_n hx hb dL_law_53 rfl (lv_at hl 1 rfl) ?_
  refine lv_iload hx hb dL_law_54 (lv_at hl 0 rfl) ?_
  refine rdS (As := [.ref q, .int (nI (29 * trip))]) (rest := [.ref (a 0)]) hx hb hml hown hg (c_L_cell l D cI cB aS q L xs (29 * trip) (by first | assumption | omega) (by first | assumption | omega)) gm_230 sf_L_cell ⟨Nat.le_of_ble_eq_true rfl, Nat.le_of_ble_eq_true rfl⟩ ⟨rfl, rfl⟩ hc (RPX.preS hK (X_at hX hbl hbA hS)) rfl hl.1 rfl (Nat.le_of_ble_eq_true rfl) dL_law_56 ?_
  obtain ⟨x, e_x⟩ : ∃ x, x = clF L xs (29 * trip) := ⟨_, rfl⟩
  have qx : x < 2147483648 := by rw [e_x]; exact clF_lt
  rw [← e_x]
  refine lv_aload_n hx hb dL_law_59 rfl (lv_at hl 1 rfl) ?_
  refine lv_iload hx hb dL_law_60 (lv_at hl 0 rfl) ?_
  refine lv_iconst (v := (nI 1)) hx hb dL_law_62 (by decide) ?_
  refine nv_iadd hx hb dL_law_63 ?_
  refine rdS (As := [.ref q, .int (nI (29 * trip + 1))]) (rest := [.int (nI x), .ref (a 0)]) hx hb hml hown hg (c_L_cell l D cI cB aS q L xs (29 * trip + 1) (by first | assumption | omega) (by first | assumption | omega)) gm_230 sf_L_cell ⟨Nat.le_of_ble_eq_true rfl, Nat.le_of_ble_eq_true rfl⟩ ⟨rfl, rfl⟩ hc (RPX.preS hK (X_at hX hbl hbA hS)) rfl hl.1 rfl (Nat.le_of_ble_eq_true rfl) dL_law_64 ?_
  obtain ⟨z, e_z⟩ : ∃ z, z = clF L xs (29 * trip + 1) := ⟨_, rfl⟩
  have qz : z < 2147483648 := by rw [e_z]; exact clF_lt
  rw [← e_z]
  refine lv_aload_n hx hb dL_law_67 rfl (lv_at hl 3 rfl) ?_
  refine wrSi (As := [.ref (a 0), .int (nI x), .int (nI z), .ref (y 0)]) (rest := []) hx hb hml hown hg (c_L_street l D cI cB aS aV _ _ 0 n st ik td 0 nh bs ktd knd knh kbs pg kd ag pa bo dm dn hh hn kag kpa kbo kdm kdn khh khn wb ps ty wa wc ga tt ow x z (hD.weaken (fun _ _ _ _ => trivial)) (by first | assumption | omega) (by first | assumption | omega)) gm_234 sf_L_street ⟨Nat.le_of_ble_eq_true rfl, Nat.le_of_ble_eq_true rfl⟩ ⟨rfl, rfl⟩ hc (RPE.preS hK ((hE.kept hS.2.1).narrow (fun r hr => inW_all hD r hr)) hP) rfl hl.1 rfl (Nat.le_of_ble_eq_true rfl) dL_law_68 hS (inW_all hD) (fun r_1 u_1 H1 locs hpo_1 hP1 hk1 hS => ?_)
  have hP : va_P D vwCl (ZW cI cB a y 0 (sN x) (st + 1) (nI 0) 0 0 0 (nI 0) ktd knd knh kbs (pgL x z pg (sN x)) (cpF (stK (pgL x z pg (sN x))) kd (sN x)) (cpF (stA (pgL x z pg (sN x))) ag (sN x)) pa (fun _ => nI 0) dm dn hh hn kag kpa kbo kdm kdn khh khn wb ps ty (sW x z wa (sN x)) wc ga tt ow) H1 := hP1
  have hD : va_D A (ZW cI cB a y 0 (sN x) (st + 1) (nI 0) 0 0 0 (nI 0) ktd knd knh kbs (pgL x z pg (sN x)) (cpF (stK (pgL x z pg (sN x))) kd (sN x)) (cpF (stA (pgL x z pg (sN x))) ag (sN x)) pa (fun _ => nI 0) dm dn hh hn kag kpa kbo kdm kdn khh khn wb ps ty (sW x z wa (sN x)) wc ga tt ow) := hD.addr (ZW_addr.trans ZW_addr.symm)
  clear hP1 hk1
  generalize H1 = H at hP hS ⊢
  have hpo_1 : r_1 = (nI 1) := hpo_1
  subst hpo_1
  refine nv_if_eq (tgt := 81) hx hb dL_law_71 (by omega) (by decide) (fun c_71 => ?_) (fun c_71 => ?_)
  · exact absurd c_71 (by decide)
  · skip
    refine lv_aload_n hx hb dL_law_74 rfl (lv_at hl 2 rfl) ?_
    have hP_2 : va_P D vwCl (XW cI a 0 (sN x) (st + 1) (nI 0) 0 0 0 (nI 0) ktd knd knh kbs (pgL x z pg (sN x)) (cpF (stK (pgL x z pg (sN x))) kd (sN x)) (cpF (stA (pgL x z pg (sN x))) ag (sN x)) pa (fun _ => nI 0) dm dn hh hn kag kpa kbo kdm kdn khh khn wb ps ty) _ := P_X hP
    refine wrVi (As := []) (rest := []) hx hb hml hown hg (c_X2_pay l D cI cB aS _ 0 (sN x) (st + 1) (nI 0) 0 0 0 (nI 0) ktd knd knh kbs (pgL x z pg (sN x)) (cpF (stK (pgL x z pg (sN x))) kd (sN x)) (cpF (stA (pgL x z pg (sN x))) ag (sN x)) pa (fun _ => nI 0) dm dn hh hn kag kpa kbo kdm kdn khh khn wb ps ty ((D_X hD).weaken (fun _ _ _ _ => trivial)) (by first | assumption | omega)) gm_188 vf_X2_pay ⟨Nat.le_of_ble_eq_true rfl, Nat.le_of_ble_eq_true rfl⟩ ⟨rfl, rfl⟩ hc (RP.preV hK hP_2 (q0 := 0) (ci := 2) XW_g0 rfl) rfl hl.1 rfl (Nat.le_of_ble_eq_true rfl) dL_law_75 hS (inW_all (D_X hD)) (fun r_3 u_3 H1 locs hpo_3 hP1 hk1 hS => ?_)
    have hP : va_P D vwCl (ZW cI cB a y 0 (sN x) (st + 1) (nI 0) 0 0 0 (nI 0) ktd knd knh kbs (pgL x z pg (sN x)) (cpF (stK (pgL x z pg (sN x))) kd (sN x)) (cpF (stA (pgL x z pg (sN x))) ag (sN x)) pa (fun _ => nI 0) dm dn hh hn kag kpa kbo kdm kdn khh khn wb ps ty (sW x z wa (sN x)) wc ga tt ow) H1 := zx_join hP hD hP1 hk1
    have hD : va_D A (ZW cI cB a y 0 (sN x) (st + 1) (nI 0) 0 0 0 (nI 0) ktd knd knh kbs (pgL x z pg (sN x)) (cpF (stK (pgL x z pg (sN x))) kd (sN x)) (cpF (stA (pgL x z pg (sN x))) ag (sN x)) pa (fun _ => nI 0) dm dn hh hn kag kpa kbo kdm kdn khh khn wb ps ty (sW x z wa (sN x)) wc ga tt ow) := hD.addr (ZW_addr.trans ZW_addr.symm)
    clear hP1 hk1
    generalize H1 = H at hP hS ⊢
    have hpo_3 : r_3 = (sm dm 0) := hpo_3
    subst hpo_3
    refine lv_if_eq (tgt := 83) hx hb dL_law_78 (by decide) (fun (c_78 : (sm dm 0) = nI 0) => ?_) (fun (c_78 : ¬ (sm dm 0) = nI 0) => ?_)
    · skip
      refine lv_aload_n hx hb dL_law_83 rfl (lv_at hl 3 rfl) ?_
      refine lv_iconst (v := (nI 0)) hx hb dL_law_84 (by decide) ?_
      refine nv_iald hx hb hK.1 hP 41 0 ZW_g41 rfl (by omega) (by omega) dL_law_85 ?_
      rw [show (((sW x z wa (sN x)) 0) : Int32) = (nI (sN x)) from sW_0]
      refine lv_istore (lv' := [(9, .int (nI (sN x))), (8, .int (nI (29 * trip))), (0, .ref q), (1, .ref (a 0)), (2, .ref (y 0)), (3, .ref (y 1)), (4, .ref (y 2)), (5, .ref (y 3)), (6, .ref (y 4)), (7, .int (nI trip))]) hx hb dL_law_86 hl (by decide) rfl (fun ls hl => ?_)
      refine lv_iconst (v := (nI 0)) hx hb dL_law_88 (by decide) ?_
      refine lv_istore (lv' := [(10, .int (nI 0)), (9, .int (nI (sN x))), (8, .int (nI (29 * trip))), (0, .ref q), (1, .ref (a 0)), (2, .ref (y 0)), (3, .ref (y 1)), (4, .ref (y 2)), (5, .ref (y 3)), (6, .ref (y 4)), (7, .int (nI trip))]) hx hb dL_law_89 hl (by decide) rfl (fun ls hl => ?_)
      refine lv_iconst (v := (nI 0)) hx hb dL_law_91 (by decide) ?_
      refine lv_istore (lv' := [(11, .int (nI 0)), (10, .int (nI 0)), (9, .int (nI (sN x))), (8, .int (nI (29 * trip))), (0, .ref q), (1, .ref (a 0)), (2, .ref (y 0)), (3, .ref (y 1)), (4, .ref (y 2)), (5, .ref (y 3)), (6, .ref (y 4)), (7, .int (nI trip))]) hx hb dL_law_92 hl (by decide) rfl (fun ls hl => ?_)
      refine lv_iconst (v := (nI 0)) hx hb dL_law_94 (by decide) ?_
      refine lv_istore (lv' := [(12, .int (nI 0)), (11, .int (nI 0)), (10, .int (nI 0)), (9, .int (nI (sN x))), (8, .int (nI (29 * trip))), (0, .ref q), (1, .ref (a 0)), (2, .ref (y 0)), (3, .ref (y 1)), (4, .ref (y 2)), (5, .ref (y 3)), (6, .ref (y 4)), (7, .int (nI trip))]) hx hb dL_law_95 hl (by decide) rfl (fun ls hl => ?_)
      exact kk (sN x) _ _ _ (zJ.of zI_street zD.o rfl hP hS) (lv_sub hl [5, 6, 7, 8, 9, 10, 11, 12, 4, 3, 2, 1, 0] rfl)
    · exact absurd rfl c_78
theorem sf_L_act : sfacts RL yL_act cL_act 7 (some .boolean) 4 := ⟨⟨rfl, by decide +kernel, by decide +kernel, by decide +kernel⟩, gm_347, gm_1, gm_348⟩
set_option maxRecDepth 100000 in
set_option maxHeartbeats 8000000 in
theorem law_act {p : Program} {l : Launch} {e : Env} {s : State} {m : MethodId} {args : Array Value} {below : List Frame} {meth : Method} {c : Code} {D : va_G} {cI cB : ClassId} {aS aV : Nat} {A : Nat → Prop} {a y : Nat → Nat} {q L : Nat} {xs : Nat → Int32} {cells slots : Nat} {Q : State → Prop} (C : zC p s m c args D cI cB aS aV A a y q L xs) (hc : cells ≤ room_1.cells ∧ slots ≤ room_1.slots) {trip n nd t : Nat} {owed : Int32} (ht2 : trip < 2) (ht : t < 22) {H : Heap} {locs : List Loc} {ls : Array Slot} (J : zJ D cI cB A a y s n nd owed H locs) (hl : lv_has ls 25 [(0, .ref q), (1, .ref (a 0)), (2, .ref (y 0)), (3, .ref (y 1)), (4, .ref (y 2)), (5, .ref (y 3)), (6, .ref (y 4)), (7, .int (nI trip)), (8, .int (nI (29 * trip))), (9, .int (nI n)), (10, .int owed), (11, .int (nI nd)), (12, .int (nI t))]) (kk : ∀ (x : Nat) (H : Heap) (locs : List Loc) (ls : Array Slot), x < 2147483648 → zJ D cI cB A a y s n nd owed H locs → lv_has ls 25 [(0, .ref q), (1, .ref (a 0)), (2, .ref (y 0)), (3, .ref (y 1)), (4, .ref (y 2)), (5, .ref (y 3)), (6, .ref (y 4)), (7, .int (nI trip)), (8, .int (nI (29 * trip))), (9, .int (nI n)), (10, .int owed), (11, .int (nI nd)), (12, .int (nI t)), (13, .int (nI x))] → W p l e room_1 s m args below meth c H locs cells slots Q (F0 m 131 ls [])) : W p l e room_1 s m args below meth c H locs cells slots Q (F0 m 104 ls []) := by
  obtain ⟨hx, hb, hml, hown, hg, hK, hE, hX, hbl, hbA, hL, hDZ⟩ := C
  obtain ⟨st, ik, td, nh, bs, ktd, knd, knh, kbs, pg, kd, ag, pa, bo, dm, dn, hh, hn, kag, kpa, kbo, kdm, kdn, khh, khn, wb, ps, ty, wa, wc, ga, tt, ow, hzI, hzD, how, hP, hS⟩ := J
  obtain ⟨h2n, hn6, qt, hw0, hw1, hw2, hho, hg9⟩ := id hzI
  have qnd := hzD.1
  have hD : va_D A (ZW cI cB a y 0 n st ik td nd nh bs ktd knd knh kbs pg kd ag pa bo dm dn hh hn kag kpa kbo kdm kdn khh khn wb ps ty wa wc ga tt ow) := hDZ _ ZW_addr
  refine lv_aload_n hx hb dL_law_104 rfl (lv_at hl 0 rfl) ?_
  refine lv_iload hx hb dL_law_105 (lv_at hl 8 rfl) ?_
  refine lv_iconst (v := (nI 2)) hx hb dL_law_107 (by decide) ?_
  refine nv_iadd hx hb dL_law_108 ?_
  refine lv_iload hx hb dL_law_109 (lv_at hl 12 rfl) ?_
  refine nv_iadd hx hb dL_law_111 ?_
  refine rdS (As := [.ref q, .int (nI (29 * trip + 2 + t))]) (rest := []) hx hb hml hown hg (c_L_cell l D cI cB aS q L xs (29 * trip + 2 + t) (by first | assumption | omega) (by first | assumption | omega)) gm_230 sf_L_cell ⟨Nat.le_of_ble_eq_true rfl, Nat.le_of_ble_eq_true rfl⟩ ⟨rfl, rfl⟩ hc (RPX.preS hK (X_at hX hbl hbA hS)) rfl hl.1 rfl (Nat.le_of_ble_eq_true rfl) dL_law_112 ?_
  obtain ⟨x, e_x⟩ : ∃ x, x = clF L xs (29 * trip + 2 + t) := ⟨_, rfl⟩
  have qx : x < 2147483648 := by rw [e_x]; exact clF_lt
  rw [← e_x]
  refine lv_istore (lv' := [(13, .int (nI x)), (0, .ref q), (1, .ref (a 0)), (2, .ref (y 0)), (3, .ref (y 1)), (4, .ref (y 2)), (5, .ref (y 3)), (6, .ref (y 4)), (7, .int (nI trip)), (8, .int (nI (29 * trip))), (9, .int (nI n)), (10, .int owed), (11, .int (nI nd)), (12, .int (nI t))]) hx hb dL_law_115 hl (by decide) rfl (fun ls hl => ?_)
  refine lv_aload_n hx hb dL_law_117 rfl (lv_at hl 2 rfl) ?_
  refine lv_iload hx hb dL_law_118 (lv_at hl 0 rfl) ?_
  refine lv_aload_n hx hb dL_law_120 rfl (lv_at hl 3 rfl) ?_
  refine lv_aload hx hb dL_law_121 (lv_at hl 5 rfl) ?_
  refine wrSi (As := [.ref (a 0), .int (nI x), .ref (y 0), .ref (y 2)]) (rest := []) hx hb hml hown hg (c_L_act l D cI cB aS _ _ 0 n st ik td nd nh bs ktd knd knh kbs pg kd ag pa bo dm dn hh hn kag kpa kbo kdm kdn khh khn wb ps ty wa wc ga tt ow x (hD.weaken (fun _ _ _ _ => trivial)) (by first | assumption | omega) (by first | assumption | omega)) gm_346 sf_L_act ⟨Nat.le_of_ble_eq_true rfl, Nat.le_of_ble_eq_true rfl⟩ ⟨rfl, rfl⟩ hc (RP.preS hK hP) rfl hl.1 rfl (Nat.le_of_ble_eq_true rfl) dL_law_123 hS (inW_all hD) (fun r_1 u_1 H1 locs hpo_1 hP1 hk1 hS => ?_)
  obtain ⟨td2, bs2, ag2, pa2, bo2, wa2, ga2⟩ := u_1
  obtain ⟨er9, hz9⟩ := hpo_1
  subst er9
  have hz9 : zI n td2 bs2 kd ag2 pa2 bo2 wa2 ga2 := hz9
  have hP : va_P D vwCl (ZW cI cB a y 0 n st ik td2 nd nh bs2 ktd knd knh kbs pg kd ag2 pa2 bo2 dm dn hh hn kag kpa kbo kdm kdn khh khn wb ps ty wa2 wc ga2 tt ow) H1 := hP1
  have hD : va_D A (ZW cI cB a y 0 n st ik td2 nd nh bs2 ktd knd knh kbs pg kd ag2 pa2 bo2 dm dn hh hn kag kpa kbo kdm kdn khh khn wb ps ty wa2 wc ga2 tt ow) := hD.addr (ZW_addr.trans ZW_addr.symm)
  clear hP1 hk1
  generalize H1 = H at hP hS ⊢
  refine nv_if_ne (tgt := 131) hx hb dL_law_126 (by omega) (by decide) (fun c_126 => ?_) (fun c_126 => ?_)
  · skip
    exact kk x _ _ _ qx (zJ.of hz9 hzD how hP hS) (lv_sub hl [1, 2, 3, 4, 5, 6, 7, 8, 9, 10, 11, 12, 13, 0] rfl)
  · exact absurd c_126 (by decide)
