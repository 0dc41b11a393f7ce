theorem sf_L_copy : sfacts RL yL_copy cL_copy 3 none 2 := ⟨⟨rfl, by decide +kernel, by decide +kernel, by decide +kernel⟩, gm_344, gm_1, gm_345⟩
theorem vf_X2_years : vfacts RX2 yX2_years cX2_years 7 (some .int) 3 := ⟨⟨rfl, by decide +kernel, by decide +kernel, by decide +kernel⟩, gm_197, gm_198, gm_2, gm_199⟩
set_option maxRecDepth 100000 in
set_option maxHeartbeats 8000000 in
theorem law_years {p : Program} {l : Launch} {e : Env} {s : State} {m : MethodId} {args : Array Value} {below : List Frame} {meth : Method} {c : Code} {D : va_G} {cI cB : ClassId} {aS aV : Nat} {A : Nat → Prop} {a y : Nat → Nat} {q L : Nat} {xs : Nat → Int32} {cells slots : Nat} {Q : State → Prop} (C : zC p s m c args D cI cB aS aV A a y q L xs) (hc : cells ≤ room_1.cells ∧ slots ≤ room_1.slots) {trip n nd t x : Nat} {owed : Int32} (ht2 : trip < 2) (ht : t < 22) (qx : x < 2147483648) {H : Heap} {locs : List Loc} {ls : Array Slot} (J : zJ D cI cB A a y s n nd owed H locs) (hl : lv_has ls 25 [(0, .ref q), (1, .ref (a 0)), (2, .ref (y 0)), (3, .ref (y 1)), (4, .ref (y 2)), (5, .ref (y 3)), (6, .ref (y 4)), (7, .int (nI trip)), (8, .int (nI (29 * trip))), (9, .int (nI n)), (10, .int owed), (11, .int (nI nd)), (12, .int (nI t)), (13, .int (nI x))]) (kk : ∀ (H : Heap) (locs : List Loc) (ls : Array Slot), zJ D cI cB A a y s n nd owed H locs → lv_has ls 25 [(0, .ref q), (1, .ref (a 0)), (2, .ref (y 0)), (3, .ref (y 1)), (4, .ref (y 2)), (5, .ref (y 3)), (6, .ref (y 4)), (7, .int (nI trip)), (8, .int (nI (29 * trip))), (9, .int (nI n)), (10, .int owed), (11, .int (nI nd)), (12, .int (nI t))] → W p l e room_1 s m args below meth c H locs cells slots Q (F0 m 1018 ls [])) : W p l e room_1 s m args below meth c H locs cells slots Q (F0 m 830 ls []) := by
  obtain ⟨hx, hb, hml, hown, hg, hK, hE, hX, hbl, hbA, hL, hDZ⟩ := C
  obtain ⟨st, ik, td, nh, bs, ktd, knd, knh, kbs, pg, kd, ag, pa, bo, dm, dn, hh, hn, kag, kpa, kbo, kdm, kdn, khh, khn, wb, ps, ty, wa, wc, ga, tt, ow, hzI, hzD, how, hP, hS⟩ := J
  obtain ⟨h2n, hn6, qt, hw0, hw1, hw2, hho, hg9⟩ := id hzI
  have qnd := hzD.1
  have hn0 : 0 < n := by omega
  have hD : va_D A (ZW cI cB a y 0 n st ik td nd nh bs ktd knd knh kbs pg kd ag pa bo dm dn hh hn kag kpa kbo kdm kdn khh khn wb ps ty wa wc ga tt ow) := hDZ _ ZW_addr
  refine lv_iload hx hb dL_law_830 (lv_at hl 12 rfl) ?_
  refine lv_bipush (v := (nI 6)) hx hb dL_law_832 (by decide) ?_
  refine nv_irem hx hb dL_law_834 (by omega) (by omega) (by omega) ?_
  refine lv_iconst (v := (nI 5)) hx hb dL_law_835 (by decide) ?_
  refine nv_icmp_ne (tgt := 1018) hx hb dL_law_836 (by omega) (by omega) (by decide) (fun c_836 => ?_) (fun c_836 => ?_)
  · skip
    exact kk _ _ _ (zJ.of hzI hzD how hP hS) (lv_sub hl [0, 1, 2, 3, 4, 5, 6, 7, 8, 9, 10, 11, 12] rfl)
  · skip
    refine lv_iconst (v := (nI 1)) hx hb dL_law_839 (by decide) ?_
    refine lv_iload hx hb dL_law_840 (lv_at hl 13 rfl) ?_
    refine lv_sipush (v := (nI 512)) hx hb dL_law_842 (by decide) ?_
    refine nv_idiv hx hb dL_law_845 (by omega) (by omega) (by omega) ?_
    refine lv_bipush (v := (nI 60)) hx hb dL_law_846 (by decide) ?_
    refine nv_irem hx hb dL_law_848 (by omega) (by omega) (by omega) ?_
    refine nv_iadd hx hb dL_law_849 ?_
    obtain ⟨tm, e_tm⟩ : ∃ tm, tm = 1 + x / 512 % 60 := ⟨_, rfl⟩
    have htm : 1 ≤ tm ∧ tm ≤ 60 := by omega
    rw [← e_tm]
    refine lv_istore (lv' := [(16, .int (nI tm)), (0, .ref q), (1, .ref (a 0)), (2, .ref (y 0)), (3, .ref (y 1)), (4, .ref (y 2)), (5, .ref (y 3)), (6, .ref (y 4)), (7, .int (nI trip)), (8, .int (nI (29 * trip))), (9, .int (nI n)), (10, .int owed), (11, .int (nI nd)), (12, .int (nI t)), (13, .int (nI x))]) hx hb dL_law_850 hl (by decide) rfl (fun ls hl => ?_)
    refine lv_aload_n hx hb dL_law_852 rfl (lv_at hl 1 rfl) ?_
    refine lv_iload hx hb dL_law_853 (lv_at hl 9 rfl) ?_
    refine lv_bipush (v := (nI 24)) hx hb dL_law_855 (by decide) ?_
    refine nv_iadd hx hb dL_law_857 ?_
    refine lv_iload hx hb dL_law_858 (lv_at hl 13 rfl) ?_
    refine lv_bipush (v := (nI 6)) hx hb dL_law_860 (by decide) ?_
    refine nv_idiv hx hb dL_law_862 (by omega) (by omega) (by omega) ?_
    refine nv_iadd hx hb dL_law_863 ?_
    refine rdS (As := [.ref q, .int (nI (29 * trip + 24 + (t / 6)))]) (rest := []) hx hb hml hown hg (c_L_cell l D cI cB aS q L xs (29 * trip + 24 + (t / 6)) (by first | assumption | omega) (by first | assumption | omega)) gm_230 sf_L_cell ⟨Nat.le_of_ble_eq_true rfl, Nat.le_of_ble_eq_true rfl⟩ ⟨rfl, rfl⟩ hc (RPX.preS hK (X_at hX hbl hbA hS)) rfl hl.1 rfl (Nat.le_of_ble_eq_true rfl) dL_law_864 ?_
    obtain ⟨z, e_z⟩ : ∃ z, z = clF L xs (29 * trip + 24 + t / 6) := ⟨_, rfl⟩
    have hz : z < 2147483648 := by rw [e_z]; exact clF_lt
    rw [← e_z]
    refine lv_istore (lv' := [(17, .int (nI z)), (16, .int (nI tm)), (0, .ref q), (1, .ref (a 0)), (2, .ref (y 0)), (3, .ref (y 1)), (4, .ref (y 2)), (5, .ref (y 3)), (6, .ref (y 4)), (7, .int (nI trip)), (8, .int (nI (29 * trip))), (9, .int (nI n)), (10, .int owed), (11, .int (nI nd)), (12, .int (nI t)), (13, .int (nI x))]) hx hb dL_law_867 hl (by decide) rfl (fun ls hl => ?_)
    refine lv_iload hx hb dL_law_869 (lv_at hl 0 rfl) ?_
    refine lv_i2l (v := (nI z).toInt64) hx hb dL_law_871 rfl ?_
    rw [show (((nI z).toInt64) : Int64) = (lN (ySd z 0)) from nI_l hz]
    refine lv_lstore (lv' := [(18, .long (lN (ySd z 0))), (17, .int (nI z)), (16, .int (nI tm)), (0, .ref q), (1, .ref (a 0)), (2, .ref (y 0)), (3, .ref (y 1)), (4, .ref (y 2)), (5, .ref (y 3)), (6, .ref (y 4)), (7, .int (nI trip)), (8, .int (nI (29 * trip))), (9, .int (nI n)), (10, .int owed), (11, .int (nI nd)), (12, .int (nI t)), (13, .int (nI x))]) hx hb dL_law_872 hl (by decide) rfl (fun ls hl => ?_)
    refine lv_iconst (v := (nI 0)) hx hb dL_law_874 (by decide) ?_
    refine lv_istore (lv' := [(20, .int (nI 0)), (18, .long (lN (ySd z 0))), (17, .int (nI z)), (16, .int (nI tm)), (0, .ref q), (1, .ref (a 0)), (2, .ref (y 0)), (3, .ref (y 1)), (4, .ref (y 2)), (5, .ref (y 3)), (6, .ref (y 4)), (7, .int (nI trip)), (8, .int (nI (29 * trip))), (9, .int (nI n)), (10, .int owed), (11, .int (nI nd)), (12, .int (nI t)), (13, .int (nI x))]) hx hb dL_law_875 hl (by decide) rfl (fun ls hl => ?_)
    refine lv_aload_n hx hb dL_law_877 rfl (lv_at hl 6 rfl) ?_
    refine lv_aload_n hx hb dL_law_878 rfl (lv_at hl 7 rfl) ?_
    have hP_1 : va_P D vwCl [(y 0, .inl (cI, 21, .inl wa)), (y 1, .inl (cI, 21, .inl wc))] _ := P_s2 hP ZW_g41 ZW_g42
    have hC_2 : ([41, 42] : List Nat).map (fun q_ => (ZW cI cB a y 0 n st ik td nd nh bs ktd knd knh kbs pg kd ag pa bo dm dn hh hn kag kpa kbo kdm kdn khh khn wb ps ty wa wc ga tt ow : va_W)[q_]?) = List.map some ([(y 0, .inl (cI, 21, .inl wa)), (y 1, .inl (cI, 21, .inl wc))] : va_W) := M_s2 ZW_g41 ZW_g42
    have hDc_2 : va_D (fun _ => True) [(y 0, .inl (cI, 21, .inl wa)), (y 1, .inl (cI, 21, .inl wc))] := (hD.sub (ws' := [(y 0, .inl (cI, 21, .inl wa)), (y 1, .inl (cI, 21, .inl wc))]) [41, 42] (by decide) hC_2).weaken (fun _ _ _ _ => trivial)
    refine wrSv (As := [.ref (y 0), .ref (y 1)]) (rest := []) hx hb hml hown hg (c_L_copy l D cI cB aS (y 0) (y 1) wa wc hDc_2) gm_343 sf_L_copy ⟨Nat.le_of_ble_eq_true rfl, Nat.le_of_ble_eq_true rfl⟩ ⟨rfl, rfl⟩ hc (RP.preS hK hP_1) rfl hl.1 rfl (Nat.le_of_ble_eq_true rfl) dL_law_879 hS (inW_sub hD [41, 42] hC_2) (fun u_3 H1 locs hpo_3 hP1 hk1 hS => ?_)
    have hP : va_P D vwCl (ZW cI cB a y 0 n st ik td nd nh bs ktd knd knh kbs pg kd ag pa bo dm dn hh hn kag kpa kbo kdm kdn khh khn wb ps ty wa wa ga tt ow) H1 := P_eq (wjoin (wc := [(y 0, .inl (cI, 21, .inl wa)), (y 1, .inl (cI, 21, .inl wc))]) (w1 := [(y 0, .inl (cI, 21, .inl wa)), (y 1, .inl (cI, 21, .inl wa))]) hP hD [41, 42] hC_2 rfl hP1 hk1) (wsets_c (set_same ZW_g41) ZW_s42)
    have hD : va_D A (ZW cI cB a y 0 n st ik td nd nh bs ktd knd knh kbs pg kd ag pa bo dm dn hh hn kag kpa kbo kdm kdn khh khn wb ps ty wa wa ga tt ow) := hD.addr (ZW_addr.trans ZW_addr.symm)
    clear hP1 hk1
    generalize H1 = H at hP hS ⊢
    refine lv_iconst (v := (nI 0)) hx hb dL_law_882 (by decide) ?_
    refine lv_istore (lv' := [(21, .int (nI 0)), (20, .int (nI 0)), (18, .long (lN (ySd z 0))), (17, .int (nI z)), (16, .int (nI tm)), (0, .ref q), (1, .ref (a 0)), (2, .ref (y 0)), (3, .ref (y 1)), (4, .ref (y 2)), (5, .ref (y 3)), (6, .ref (y 4)), (7, .int (nI trip)), (8, .int (nI (29 * trip))), (9, .int (nI n)), (10, .int owed), (11, .int (nI nd)), (12, .int (nI t)), (13, .int (nI x))]) hx hb dL_law_883 hl (by decide) rfl (fun ls hl => ?_)
    -- loop at 885
    refine loopW (nL := 25) (S := Unit) (B := tm) (I := fun i u => True) (lv := fun i u => [(0, .ref q), (1, .ref (a 0)), (2, .ref (y 0)), (3, .ref (y 1)), (4, .ref (y 2)), (5, .ref (y 3)), (6, .ref (y 4)), (7, .int (nI trip)), (8, .int (nI (29 * trip))), (9, .int (nI n)), (10, .int owed), (11, .int (nI nd)), (12, .int (nI t)), (13, .int (nI x)), (16, .int (nI tm)), (17, .int (nI z)), (18, .long (lN (ySd z i))), (20, .int (nI (yWf n wa z i))), (21, .int (nI i))]) (wf := fun i u => ZW cI cB a y 0 n st ik td nd nh bs ktd knd knh kbs pg kd ag pa bo dm dn hh hn kag kpa kbo kdm kdn khh khn wb ps ty (yW n wa z i) wa ga tt ow) 0 () (Nat.zero_le _) (trivial) (by show lv_has ls 25 [(0, .ref q), (1, .ref (a 0)), (2, .ref (y 0)), (3, .ref (y 1)), (4, .ref (y 2)), (5, .ref (y 3)), (6, .ref (y 4)), (7, .int (nI trip)), (8, .int (nI (29 * trip))), (9, .int (nI n)), (10, .int owed), (11, .int (nI nd)), (12, .int (nI t)), (13, .int (nI x)), (16, .int (nI tm)), (17, .int (nI z)), (18, .long (lN (ySd z 0))), (20, .int (nI (yWf n wa z 0))), (21, .int (nI 0))]; exact lv_sub hl [5, 6, 7, 8, 9, 10, 11, 12, 13, 14, 15, 16, 17, 18, 4, 3, 2, 1, 0] rfl) hP (hD.addr (ZW_addr.trans ZW_addr.symm)) hS (fun i u ls H locs hj hI hl hP hD hS ih => ?_)
    have hP : va_P D vwCl (ZW cI cB a y 0 n st ik td nd nh bs ktd knd knh kbs pg kd ag pa bo dm dn hh hn kag kpa kbo kdm kdn khh khn wb ps ty (yW n wa z i) wa ga tt ow) H := hP
    have hD : va_D A (ZW cI cB a y 0 n st ik td nd nh bs ktd knd knh kbs pg kd ag pa bo dm dn hh hn kag kpa kbo kdm kdn khh khn wb ps ty (yW n wa z i) wa ga tt ow) := hD
    have hl : lv_has ls 25 [(0, .ref q), (1, .ref (a 0)), (2, .ref (y 0)), (3, .ref (y 1)), (4, .ref (y 2)), (5, .ref (y 3)), (6, .ref (y 4)), (7, .int (nI trip)), (8, .int (nI (29 * trip))), (9, .int (nI n)), (10, .int owed), (11, .int (nI nd)), (12, .int (nI t)), (13, .int (nI x)), (16, .int (nI tm)), (17, .int (nI z)), (18, .long (lN (ySd z i))), (20, .int (nI (yWf n wa z i))), (21, .int (nI i))] := hl
    have ih_885 := ih
    refine lv_iload hx hb dL_law_885 (lv_at hl 18 rfl) ?_
    refine lv_iload hx hb dL_law_887 (lv_at hl 14 rfl) ?_
    refine nv_icmp_ge (tgt := 961) hx hb dL_law_889 (by omega) (by omega) (by decide) (fun c_889 => ?_) (fun c_889 => ?_)
    · skip
      have ei : i = tm := by omega
      rw [ei] at hP hD hl
      refine lv_aload_n hx hb dL_law_961 rfl (lv_at hl 2 rfl) ?_
      have hP_4 : va_P D vwCl [(y 0, .inl (cI, 21, .inl (yW n wa z tm)))] _ := P_s1 hP ZW_g41
      refine rdS (As := [.ref (y 0)]) (rest := []) hx hb hml hown hg (c_L_numbers l D cI cB aS (y 0) (yW n wa z tm) n (by rw [yW_n (by omega)]; exact hw0) (by first | assumption | omega)) gm_340 sf_L_numbers ⟨Nat.le_of_ble_eq_true rfl, Nat.le_of_ble_eq_true rfl⟩ ⟨rfl, rfl⟩ hc (RP.preS hK hP_4) rfl hl.1 rfl (Nat.le_of_ble_eq_true rfl) dL_law_962 ?_
      refine lv_istore (lv' := [(21, .int (sm (nwF (yW n wa z tm)) n)), (0, .ref q), (1, .ref (a 0)), (2, .ref (y 0)), (3, .ref (y 1)), (4, .ref (y 2)), (5, .ref (y 3)), (6, .ref (y 4)), (7, .int (nI trip)), (8, .int (nI (29 * trip))), (9, .int (nI n)), (10, .int owed), (11, .int (nI nd)), (12, .int (nI t)), (13, .int (nI x)), (16, .int (nI tm)), (17, .int (nI z)), (18, .long (lN (ySd z tm))), (20, .int (nI (yWf n wa z tm)))]) hx hb dL_law_965 hl (by decide) rfl (fun ls hl => ?_)
      refine lv_aload_n hx hb dL_law_967 rfl (lv_at hl 4 rfl) ?_
      refine lv_aload_n hx hb dL_law_968 rfl (lv_at hl 3 rfl) ?_
      have hP_5 : va_P D vwCl [(y 1, .inl (cI, 21, .inl wa)), (y 0, .inl (cI, 21, .inl (yW n wa z tm)))] _ := P_s2 hP ZW_g42 ZW_g41
      have hC_6 : ([42, 41] : List Nat).map (fun q_ => (ZW cI cB a y 0 n st ik td nd nh bs ktd knd knh kbs pg kd ag pa bo dm dn hh hn kag kpa kbo kdm kdn khh khn wb ps ty (yW n wa z tm) wa ga tt ow : va_W)[q_]?) = List.map some ([(y 1, .inl (cI, 21, .inl wa)), (y 0, .inl (cI, 21, .inl (yW n wa z tm)))] : va_W) := M_s2 ZW_g42 ZW_g41
      have hDc_6 : va_D (fun _ => True) [(y 1, .inl (cI, 21, .inl wa)), (y 0, .inl (cI, 21, .inl (yW n wa z tm)))] := (hD.sub (ws' := [(y 1, .inl (cI, 21, .inl wa)), (y 0, .inl (cI, 21, .inl (yW n wa z tm)))]) [42, 41] (by decide) hC_6).weaken (fun _ _ _ _ => trivial)
      refine wrSv (As := [.ref (y 1), .ref (y 0)]) (rest := []) hx hb hml hown hg (c_L_copy l D cI cB aS (y 1) (y 0) wa (yW n wa z tm) hDc_6) gm_343 sf_L_copy ⟨Nat.le_of_ble_eq_true rfl, Nat.le_of_ble_eq_true rfl⟩ ⟨rfl, rfl⟩ hc (RP.preS hK hP_5) rfl hl.1 rfl (Nat.le_of_ble_eq_true rfl) dL_law_969 hS (inW_sub hD [42, 41] hC_6) (fun u_7 H1 locs hpo_7 hP1 hk1 hS => ?_)
      have hP : va_P D vwCl (ZW cI cB a y 0 n st ik td nd nh bs ktd knd knh kbs pg kd ag pa bo dm dn hh hn kag kpa kbo kdm kdn khh khn wb ps ty wa wa ga tt ow) H1 := P_eq (wjoin (wc := [(y 1, .inl (cI, 21, .inl wa)), (y 0, .inl (cI, 21, .inl (yW n wa z tm)))]) (w1 := [(y 1, .inl (cI, 21, .inl wa)), (y 0, .inl (cI, 21, .inl wa))]) hP hD [42, 41] hC_6 rfl hP1 hk1) (wsets_c (set_same ZW_g42) ZW_s41)
      have hD : va_D A (ZW cI cB a y 0 n st ik td nd nh bs ktd knd knh kbs pg kd ag pa bo dm dn hh hn kag kpa kbo kdm kdn khh khn wb ps ty wa wa ga tt ow) := hD.addr (ZW_addr.trans ZW_addr.symm)
      clear hP1 hk1
      generalize H1 = H at hP hS ⊢
      refine lv_aload_n hx hb dL_law_972 rfl (lv_at hl 2 rfl) ?_
      refine lv_iload hx hb dL_law_973 (lv_at hl 15 rfl) ?_
      refine lv_iload hx hb dL_law_975 (lv_at hl 16 rfl) ?_
      refine lv_iconst (v := (nI 0)) hx hb dL_law_977 (by decide) ?_
      have hP_8 : va_P D vwCl (XW cI a 0 n st ik td nd nh bs ktd knd knh kbs pg kd ag pa bo dm dn hh hn kag kpa kbo kdm kdn khh khn wb ps ty) _ := P_X hP
      refine wrVi (As := [.int (nI tm), .int (nI z), .int (nI 0)]) (rest := []) hx hb hml hown hg (c_X2_years l D cI cB aS _ 0 n st ik td nd nh bs ktd knd knh kbs pg kd ag pa bo dm dn hh hn kag kpa kbo kdm kdn khh khn wb ps ty (nI tm) (nI z) (nI 0) ((D_X hD).weaken (fun _ _ _ _ => trivial)) (by first | assumption | omega)) gm_196 vf_X2_years ⟨Nat.le_of_ble_eq_true rfl, Nat.le_of_ble_eq_true rfl⟩ ⟨rfl, rfl⟩ hc (RP.preV hK hP_8 (q0 := 0) (ci := 2) XW_g0 rfl) rfl hl.1 rfl (Nat.le_of_ble_eq_true rfl) dL_law_978 hS (inW_all (D_X hD)) (fun r_9 u_9 H1 locs hpo_9 hP1 hk1 hS => ?_)
      have hP : va_P D vwCl (ZW cI cB a y 0 n st ik td nd nh bs ktd knd knh kbs pg kd ag pa bo dm dn hh hn kag kpa kbo kdm kdn khh khn u_9 ps ty wa wa ga tt ow) H1 := zx_join hP hD hP1 hk1
      have hD : va_D A (ZW cI cB a y 0 n st ik td nd nh bs ktd knd knh kbs pg kd ag pa bo dm dn hh hn kag kpa kbo kdm kdn khh khn u_9 ps ty wa wa ga tt ow) := hD.addr (ZW_addr.trans ZW_addr.symm)
      clear hP1 hk1
      generalize H1 = H at hP hS ⊢
      have hpo_9 : r_9 = (yrF n kd ag (nI tm) (nI z) (nI 0)) := hpo_9
      subst hpo_9
      rw [ck_y0 hzI htm.1 htm.2 hz]
      refine lv_iload hx hb dL_law_981 (lv_at hl 18 rfl) ?_
      refine lv_icmp_ne (tgt := 1016) hx hb dL_law_983 (by decide) (fun c_983 => ?_) (fun c_983 => ?_)
      · exact absurd rfl c_983
      · skip
        refine lv_aload_n hx hb dL_law_986 rfl (lv_at hl 2 rfl) ?_
        refine lv_iload hx hb dL_law_987 (lv_at hl 15 rfl) ?_
        refine lv_iload hx hb dL_law_989 (lv_at hl 16 rfl) ?_
        refine lv_iconst (v := (nI 1)) hx hb dL_law_991 (by decide) ?_
        have hP_10 : va_P D vwCl (XW cI a 0 n st ik td nd nh bs ktd knd knh kbs pg kd ag pa bo dm dn hh hn kag kpa kbo kdm kdn khh khn u_9 ps ty) _ := P_X hP
        refine wrVi (As := [.int (nI tm), .int (nI z), .int (nI 1)]) (rest := []) hx hb hml hown hg (c_X2_years l D cI cB aS _ 0 n st ik td nd nh bs ktd knd knh kbs pg kd ag pa bo dm dn hh hn kag kpa kbo kdm kdn khh khn u_9 ps ty (nI tm) (nI z) (nI 1) ((D_X hD).weaken (fun _ _ _ _ => trivial)) (by first | assumption | omega)) gm_196 vf_X2_years ⟨Nat.le_of_ble_eq_true rfl, Nat.le_of_ble_eq_true rfl⟩ ⟨rfl, rfl⟩ hc (RP.preV hK hP_10 (q0 := 0) (ci := 2) XW_g0 rfl) rfl hl.1 rfl (Nat.le_of_ble_eq_true rfl) dL_law_992 hS (inW_all (D_X hD)) (fun r_11 u_11 H1 locs hpo_11 hP1 hk1 hS => ?_)
        have hP : va_P D vwCl (ZW cI cB a y 0 n st ik td nd nh bs ktd knd knh kbs pg kd ag pa bo dm dn hh hn kag kpa kbo kdm kdn khh khn u_11 ps ty wa wa ga tt ow) H1 := zx_join hP hD hP1 hk1
        have hD : va_D A (ZW cI cB a y 0 n st ik td nd nh bs ktd knd knh kbs pg kd ag pa bo dm dn hh hn kag kpa kbo kdm kdn khh khn u_11 ps ty wa wa ga tt ow) := hD.addr (ZW_addr.trans ZW_addr.symm)
        clear hP1 hk1
        generalize H1 = H at hP hS ⊢
        have hpo_11 : r_11 = (yrF n kd ag (nI tm) (nI z) (nI 1)) := hpo_11
        subst hpo_11
        rw [ck_y1 hzI htm.1 htm.2 hz]
        refine lv_iload hx hb dL_law_995 (lv_at hl 0 rfl) ?_
        refine lv_icmp_ne (tgt := 1016) hx hb dL_law_997 (by decide) (fun c_997 => ?_) (fun c_997 => ?_)
        · exact absurd rfl c_997
        · skip
          refine lv_aload_n hx hb dL_law_1000 rfl (lv_at hl 2 rfl) ?_
          refine lv_iload hx hb dL_law_1001 (lv_at hl 15 rfl) ?_
          refine lv_iload hx hb dL_law_1003 (lv_at hl 16 rfl) ?_
          refine lv_iconst (v := (nI 2)) hx hb dL_law_1005 (by decide) ?_
          have hP_12 : va_P D vwCl (XW cI a 0 n st ik td nd nh bs ktd knd knh kbs pg kd ag pa bo dm dn hh hn kag kpa kbo kdm kdn khh khn u_11 ps ty) _ := P_X hP
          refine wrVi (As := [.int (nI tm), .int (nI z), .int (nI 2)]) (rest := []) hx hb hml hown hg (c_X2_years l D cI cB aS _ 0 n st ik td nd nh bs ktd knd knh kbs pg kd ag pa bo dm dn hh hn kag kpa kbo kdm kdn khh khn u_11 ps ty (nI tm) (nI z) (nI 2) ((D_X hD).weaken (fun _ _ _ _ => trivial)) (by first | assumption | omega)) gm_196 vf_X2_years ⟨Nat.le_of_ble_eq_true rfl, Nat.le_of_ble_eq_true rfl⟩ ⟨rfl, rfl⟩ hc (RP.preV hK hP_12 (q0 := 0) (ci := 2) XW_g0 rfl) rfl hl.1 rfl (Nat.le_of_ble_eq_true rfl) dL_law_1006 hS (inW_all (D_X hD)) (fun r_13 u_13 H1 locs hpo_13 hP1 hk1 hS => ?_)
          have hP : va_P D vwCl (ZW cI cB a y 0 n st ik td nd nh bs ktd knd knh kbs pg kd ag pa bo dm dn hh hn kag kpa kbo kdm kdn khh khn u_13 ps ty wa wa ga tt ow) H1 := zx_join hP hD hP1 hk1
          have hD : va_D A (ZW cI cB a y 0 n st ik td nd nh bs ktd knd knh kbs pg kd ag pa bo dm dn hh hn kag kpa kbo kdm kdn khh khn u_13 ps ty wa wa ga tt ow) := hD.addr (ZW_addr.trans ZW_addr.symm)
          clear hP1 hk1
          generalize H1 = H at hP hS ⊢
          have hpo_13 : r_13 = (yrF n kd ag (nI tm) (nI z) (nI 2)) := hpo_13
          subst hpo_13
          rw [ck_y2 hzI htm.1 htm.2 hz]
          refine lv_i2l (v := (nI (ySd z tm)).toInt64) hx hb dL_law_1009 rfl ?_
          rw [show (((nI (ySd z tm)).toInt64) : Int64) = (lN (ySd z tm)) from nI_l (ySd_lt hz)]
          refine lv_lload hx hb dL_law_1010 (lv_at hl 17 rfl) ?_
          refine W.lcmp hx hb dL_law_1012 ?_
          rw [show lg_cmp (lN (ySd z tm)) (lN (ySd z tm)) = nI 0 from lg_same _]
          refine nv_if_eq (tgt := 1018) hx hb dL_law_1013 (by omega) (by decide) (fun c_1013 => ?_) (fun c_1013 => ?_)
          · skip
            exact kk _ _ _ (zJ.of hzI hzD how hP hS) (lv_sub hl [1, 2, 3, 4, 5, 6, 7, 8, 9, 10, 11, 12, 13] rfl)
          · exact absurd rfl c_1013
    · skip
      refine lv_ldc2 hx hb hown (hg _ gm_349) dL_law_892 ?_
      refine lv_lload hx hb dL_law_895 (lv_at hl 16 rfl) ?_
      refine lv_lmul hx hb dL_law_897 ?_
      refine lv_ldc2 hx hb hown (hg _ gm_350) dL_law_898 ?_
      refine lv_ladd hx hb dL_law_901 ?_
      refine lv_ldc2 hx hb hown (hg _ gm_351) dL_law_902 ?_
      refine lv_lrem hx hb dL_law_905 (by decide) ?_
      rw [show (((((1103515245 : Int64) * (lN (ySd z i))) + (12345 : Int64)) - (((1103515245 : Int64) * (lN (ySd z i))) + (12345 : Int64)) / (2147483648 : Int64) * (2147483648 : Int64)) : Int64) = (lN (ySd z (i + 1))) from sd_lr _ (ySd_lt hz)]
      refine lv_lstore (lv' := [(18, .long (lN (ySd z (i + 1)))), (0, .ref q), (1, .ref (a 0)), (2, .ref (y 0)), (3, .ref (y 1)), (4, .ref (y 2)), (5, .ref (y 3)), (6, .ref (y 4)), (7, .int (nI trip)), (8, .int (nI (29 * trip))), (9, .int (nI n)), (10, .int owed), (11, .int (nI nd)), (12, .int (nI t)), (13, .int (nI x)), (16, .int (nI tm)), (17, .int (nI z)), (20, .int (nI (yWf n wa z i))), (21, .int (nI i))]) hx hb dL_law_906 hl (by decide) rfl (fun ls hl => ?_)
      refine lv_lload hx hb dL_law_908 (lv_at hl 0 rfl) ?_
      refine lv_ldc2 hx hb hown (hg _ gm_352) dL_law_910 ?_
      refine lv_ldiv hx hb dL_law_913 (by decide) ?_
      refine lv_iload hx hb dL_law_914 (lv_at hl 10 rfl) ?_
      refine lv_i2l (v := (nI n).toInt64) hx hb dL_law_916 rfl ?_
      refine lv_lrem hx hb dL_law_917 (l_ne0 n (by omega) hn6) ?_
      refine lv_l2i (v := (((lN (ySd z (i + 1))) / (65536 : Int64)) - ((lN (ySd z (i + 1))) / (65536 : Int64)) / ((nI n).toInt64) * ((nI n).toInt64)).toInt32) hx hb dL_law_918 rfl ?_
      rw [show (((((lN (ySd z (i + 1))) / (65536 : Int64)) - ((lN (ySd z (i + 1))) / (65536 : Int64)) / ((nI n).toInt64) * ((nI n).toInt64)).toInt32) : Int32) = (nI (drF n (ySd z (i + 1)))) from dr_l (ySd_lt hz) hn0 hn6]
      obtain ⟨h9, eh⟩ : ∃ h9, h9 = drF n (ySd z (i + 1)) := ⟨_, rfl⟩
      have hh9 : h9 < n := by rw [eh]; exact drF_lt hn0
      rw [← eh]
      obtain ⟨c9, a9, qc, -, -, ewk, -, -, -⟩ := hho h9 hh9
      have ewk2 : yW n wa z i (3 + 3 * h9) = nI c9 := by rw [yW_n (by omega)]; exact ewk
      have hw02 : yW n wa z i 0 = nI n := (by rw [yW_n (by omega)]; exact hw0)
      refine lv_istore (lv' := [(22, .int (nI h9)), (18, .long (lN (ySd z (i + 1)))), (0, .ref q), (1, .ref (a 0)), (2, .ref (y 0)), (3, .ref (y 1)), (4, .ref (y 2)), (5, .ref (y 3)), (6, .ref (y 4)), (7, .int (nI trip)), (8, .int (nI (29 * trip))), (9, .int (nI n)), (10, .int owed), (11, .int (nI nd)), (12, .int (nI t)), (13, .int (nI x)), (16, .int (nI tm)), (17, .int (nI z)), (20, .int (nI (yWf n wa z i))), (21, .int (nI i))]) hx hb dL_law_919 hl (by decide) rfl (fun ls hl => ?_)
      refine lv_aload_n hx hb dL_law_921 rfl (lv_at hl 4 rfl) ?_
      refine lv_iload hx hb dL_law_922 (lv_at hl 0 rfl) ?_
      have hP_14 : va_P D vwCl [(y 0, .inl (cI, 21, .inl (yW n wa z i)))] _ := P_s1 hP ZW_g41
      refine rdS (As := [.ref (y 0), .int (nI h9)]) (rest := []) hx hb hml hown hg (c_L_bears l D cI cB aS (y 0) (yW n wa z i) h9 c9 (by first | assumption | omega) qc ewk2) gm_328 sf_L_bears ⟨Nat.le_of_ble_eq_true rfl, Nat.le_of_ble_eq_true rfl⟩ ⟨rfl, rfl⟩ hc (RP.preS hK hP_14) rfl hl.1 rfl (Nat.le_of_ble_eq_true rfl) dL_law_924 ?_
      refine bv_if_eq (tgt := 939) hx hb dL_law_927 (by decide) (fun c_927 => ?_) (fun c_927 => ?_)
      · skip
        have e_15 : yW n wa z i = ybW n (yW n wa z i) h9 := yb_f ewk2 c_927
        rw [e_15] at hP hD
        have hP : va_P D vwCl (ZW cI cB a y 0 n st ik td nd nh bs ktd knd knh kbs pg kd ag pa bo dm dn hh hn kag kpa kbo kdm kdn khh khn wb ps ty (ybW n (yW n wa z i) h9) wa ga tt ow) H := hP
        have hD : va_D A (ZW cI cB a y 0 n st ik td nd nh bs ktd knd knh kbs pg kd ag pa bo dm dn hh hn kag kpa kbo kdm kdn khh khn wb ps ty (ybW n (yW n wa z i) h9) wa ga tt ow) := hD
        refine lv_iconst (v := (nI 0)) hx hb dL_law_939 (by decide) ?_
        refine lv_istore (lv' := [(23, .int (nI 0)), (22, .int (nI h9)), (18, .long (lN (ySd z (i + 1)))), (0, .ref q), (1, .ref (a 0)), (2, .ref (y 0)), (3, .ref (y 1)), (4, .ref (y 2)), (5, .ref (y 3)), (6, .ref (y 4)), (7, .int (nI trip)), (8, .int (nI (29 * trip))), (9, .int (nI n)), (10, .int owed), (11, .int (nI nd)), (12, .int (nI t)), (13, .int (nI x)), (16, .int (nI tm)), (17, .int (nI z)), (20, .int (nI (yWf n wa z i))), (21, .int (nI i))]) hx hb dL_law_940 hl (by decide) rfl (fun ls hl => ?_)
        refine lv_iload hx hb dL_law_942 (lv_at hl 19 rfl) ?_
        refine lv_aload_n hx hb dL_law_944 rfl (lv_at hl 5 rfl) ?_
        have hP_16 : va_P D vwCl [(y 0, .inl (cI, 21, .inl (ybW n (yW n wa z i) h9)))] _ := P_s1 hP ZW_g41
        refine rdS (As := [.ref (y 0)]) (rest := [.int (nI (yWf n wa z i))]) hx hb hml hown hg (c_L_walk l D cI cB aS (y 0) (ybW n (yW n wa z i) h9) n (by rw [ybW_n (by omega), yW_n (by omega)]; exact hw0) (by first | assumption | omega) hn0) gm_337 sf_L_walk ⟨Nat.le_of_ble_eq_true rfl, Nat.le_of_ble_eq_true rfl⟩ ⟨rfl, rfl⟩ hc (RP.preS hK hP_16) rfl hl.1 rfl (Nat.le_of_ble_eq_true rfl) dL_law_945 ?_
        refine nv_iadd hx hb dL_law_948 ?_
        refine lv_istore (lv' := [(20, .int (nI (yWf n wa z i + (wkF n (nwF (ybW n (yW n wa z i) h9)) n)))), (23, .int (nI 0)), (22, .int (nI h9)), (18, .long (lN (ySd z (i + 1)))), (0, .ref q), (1, .ref (a 0)), (2, .ref (y 0)), (3, .ref (y 1)), (4, .ref (y 2)), (5, .ref (y 3)), (6, .ref (y 4)), (7, .int (nI trip)), (8, .int (nI (29 * trip))), (9, .int (nI n)), (10, .int owed), (11, .int (nI nd)), (12, .int (nI t)), (13, .int (nI x)), (16, .int (nI tm)), (17, .int (nI z)), (21, .int (nI i))]) hx hb dL_law_949 hl (by decide) rfl (fun ls hl => ?_)
        refine lv_aload_n hx hb dL_law_951 rfl (lv_at hl 6 rfl) ?_
        have hP_17 : va_P D vwCl [(y 0, .inl (cI, 21, .inl (ybW n (yW n wa z i) h9)))] _ := P_s1 hP ZW_g41
        have hC_18 : ([41] : List Nat).map (fun q_ => (ZW cI cB a y 0 n st ik td nd nh bs ktd knd knh kbs pg kd ag pa bo dm dn hh hn kag kpa kbo kdm kdn khh khn wb ps ty (ybW n (yW n wa z i) h9) wa ga tt ow : va_W)[q_]?) = List.map some ([(y 0, .inl (cI, 21, .inl (ybW n (yW n wa z i) h9)))] : va_W) := M_s1 ZW_g41
        have hDc_18 : va_D (fun _ => True) [(y 0, .inl (cI, 21, .inl (ybW n (yW n wa z i) h9)))] := (hD.sub (ws' := [(y 0, .inl (cI, 21, .inl (ybW n (yW n wa z i) h9)))]) [41] (by decide) hC_18).weaken (fun _ _ _ _ => trivial)
        refine wrSv (As := [.ref (y 0)]) (rest := []) hx hb hml hown hg (c_L_pass l D cI cB aS (y 0) (ybW n (yW n wa z i) h9) n hDc_18 (by rw [ybW_n (by omega), yW_n (by omega)]; exact hw0) (by first | assumption | omega)) gm_325 sf_L_pass ⟨Nat.le_of_ble_eq_true rfl, Nat.le_of_ble_eq_true rfl⟩ ⟨rfl, rfl⟩ hc (RP.preS hK hP_17) rfl hl.1 rfl (Nat.le_of_ble_eq_true rfl) dL_law_952 hS (inW_sub hD [41] hC_18) (fun u_19 H1 locs hpo_19 hP1 hk1 hS => ?_)
        have hP : va_P D vwCl (ZW cI cB a y 0 n st ik td nd nh bs ktd knd knh kbs pg kd ag pa bo dm dn hh hn kag kpa kbo kdm kdn khh khn wb ps ty (psF (ybW n (yW n wa z i) h9) n) wa ga tt ow) H1 := P_eq (wjoin (wc := [(y 0, .inl (cI, 21, .inl (ybW n (yW n wa z i) h9)))]) (w1 := [(y 0, .inl (cI, 21, .inl (psF (ybW n (yW n wa z i) h9) n)))]) hP hD [41] hC_18 rfl hP1 hk1) ZW_s41
        have hD : va_D A (ZW cI cB a y 0 n st ik td nd nh bs ktd knd knh kbs pg kd ag pa bo dm dn hh hn kag kpa kbo kdm kdn khh khn wb ps ty (psF (ybW n (yW n wa z i) h9) n) wa ga tt ow) := hD.addr (ZW_addr.trans ZW_addr.symm)
        clear hP1 hk1
        generalize H1 = H at hP hS ⊢
        refine lv_iinc (v := (nI (i + 1))) (lv' := [(21, .int (nI (i + 1))), (20, .int (nI (yWf n wa z i + (wkF n (nwF (ybW n (yW n wa z i) h9)) n)))), (23, .int (nI 0)), (22, .int (nI h9)), (18, .long (lN (ySd z (i + 1)))), (0, .ref q), (1, .ref (a 0)), (2, .ref (y 0)), (3, .ref (y 1)), (4, .ref (y 2)), (5, .ref (y 3)), (6, .ref (y 4)), (7, .int (nI trip)), (8, .int (nI (29 * trip))), (9, .int (nI n)), (10, .int owed), (11, .int (nI nd)), (12, .int (nI t)), (13, .int (nI x)), (16, .int (nI tm)), (17, .int (nI z))]) hx hb dL_law_955 hl (k := 20) rfl (nI_i1 _) (by decide) rfl (fun ls hl => ?_)
        refine lv_goto (tgt := 885) hx hb dL_law_958 (by decide) ?_
        exact ih_885 () _ _ _ (by omega) (trivial) (by show lv_has ls 25 [(0, .ref q), (1, .ref (a 0)), (2, .ref (y 0)), (3, .ref (y 1)), (4, .ref (y 2)), (5, .ref (y 3)), (6, .ref (y 4)), (7, .int (nI trip)), (8, .int (nI (29 * trip))), (9, .int (nI n)), (10, .int owed), (11, .int (nI nd)), (12, .int (nI t)), (13, .int (nI x)), (16, .int (nI tm)), (17, .int (nI z)), (18, .long (lN (ySd z (i + 1)))), (20, .int (nI (yWf n wa z (i + 1)))), (21, .int (nI (i + 1)))]; rw [show (yWf n wa z (i + 1)) = yWf n wa z i + (wkF n (nwF (ybW n (yW n wa z i) h9)) n) from (by rw [eh]; rfl)]; exact lv_sub hl [5, 6, 7, 8, 9, 10, 11, 12, 13, 14, 15, 16, 17, 18, 19, 20, 4, 1, 0] rfl) (by rw [eh] at hP; exact hP) (hD.addr (ZW_addr.trans ZW_addr.symm)) hS
      · skip
        refine lv_aload_n hx hb dL_law_930 rfl (lv_at hl 4 rfl) ?_
        refine lv_iload hx hb dL_law_931 (lv_at hl 0 rfl) ?_
        have hP_20 : va_P D vwCl [(y 0, .inl (cI, 21, .inl (yW n wa z i)))] _ := P_s1 hP ZW_g41
        have hC_21 : ([41] : List Nat).map (fun q_ => (ZW cI cB a y 0 n st ik td nd nh bs ktd knd knh kbs pg kd ag pa bo dm dn hh hn kag kpa kbo kdm kdn khh khn wb ps ty (yW n wa z i) wa ga tt ow : va_W)[q_]?) = List.map some ([(y 0, .inl (cI, 21, .inl (yW n wa z i)))] : va_W) := M_s1 ZW_g41
        have hDc_21 : va_D (fun _ => True) [(y 0, .inl (cI, 21, .inl (yW n wa z i)))] := (hD.sub (ws' := [(y 0, .inl (cI, 21, .inl (yW n wa z i)))]) [41] (by decide) hC_21).weaken (fun _ _ _ _ => trivial)
        refine wrSi (As := [.ref (y 0), .int (nI h9)]) (rest := []) hx hb hml hown hg (c_L_bear l D cI cB aS (y 0) (yW n wa z i) n h9 hDc_21 hw02 (by first | assumption | omega) (by first | assumption | omega)) gm_331 sf_L_bear ⟨Nat.le_of_ble_eq_true rfl, Nat.le_of_ble_eq_true rfl⟩ ⟨rfl, rfl⟩ hc (RP.preS hK hP_20) rfl hl.1 rfl (Nat.le_of_ble_eq_true rfl) dL_law_933 hS (inW_sub hD [41] hC_21) (fun r_22 u_22 H1 locs hpo_22 hP1 hk1 hS => ?_)
        have hP : va_P D vwCl (ZW cI cB a y 0 n st ik td nd nh bs ktd knd knh kbs pg kd ag pa bo dm dn hh hn kag kpa kbo kdm kdn khh khn wb ps ty (beW n (yW n wa z i) h9) wa ga tt ow) H1 := P_eq (wjoin (wc := [(y 0, .inl (cI, 21, .inl (yW n wa z i)))]) (w1 := [(y 0, .inl (cI, 21, .inl (beW n (yW n wa z i) h9)))]) hP hD [41] hC_21 rfl hP1 hk1) ZW_s41
        have hD : va_D A (ZW cI cB a y 0 n st ik td nd nh bs ktd knd knh kbs pg kd ag pa bo dm dn hh hn kag kpa kbo kdm kdn khh khn wb ps ty (beW n (yW n wa z i) h9) wa ga tt ow) := hD.addr (ZW_addr.trans ZW_addr.symm)
        clear hP1 hk1
        generalize H1 = H at hP hS ⊢
        have hpo_22 : r_22 = (if lnW n (yW n wa z i) h9 then nI 2 else nI 1) := hpo_22
        subst hpo_22
        have e_23 : beW n (yW n wa z i) h9 = ybW n (yW n wa z i) h9 := yb_t ewk2 c_927
        rw [e_23] at hP hD
        have hP : va_P D vwCl (ZW cI cB a y 0 n st ik td nd nh bs ktd knd knh kbs pg kd ag pa bo dm dn hh hn kag kpa kbo kdm kdn khh khn wb ps ty (ybW n (yW n wa z i) h9) wa ga tt ow) H := hP
        have hD : va_D A (ZW cI cB a y 0 n st ik td nd nh bs ktd knd knh kbs pg kd ag pa bo dm dn hh hn kag kpa kbo kdm kdn khh khn wb ps ty (ybW n (yW n wa z i) h9) wa ga tt ow) := hD
        refine lv_goto (tgt := 940) hx hb dL_law_936 (by decide) ?_
        refine lv_istore (lv' := [(23, .int (if lnW n (yW n wa z i) h9 then nI 2 else nI 1)), (22, .int (nI h9)), (18, .long (lN (ySd z (i + 1)))), (0, .ref q), (1, .ref (a 0)), (2, .ref (y 0)), (3, .ref (y 1)), (4, .ref (y 2)), (5, .ref (y 3)), (6, .ref (y 4)), (7, .int (nI trip)), (8, .int (nI (29 * trip))), (9, .int (nI n)), (10, .int owed), (11, .int (nI nd)), (12, .int (nI t)), (13, .int (nI x)), (16, .int (nI tm)), (17, .int (nI z)), (20, .int (nI (yWf n wa z i))), (21, .int (nI i))]) hx hb dL_law_940 hl (by decide) rfl (fun ls hl => ?_)
        refine lv_iload hx hb dL_law_942 (lv_at hl 19 rfl) ?_
        refine lv_aload_n hx hb dL_law_944 rfl (lv_at hl 5 rfl) ?_
        have hP_24 : va_P D vwCl [(y 0, .inl (cI, 21, .inl (ybW n (yW n wa z i) h9)))] _ := P_s1 hP ZW_g41
        refine rdS (As := [.ref (y 0)]) (rest := [.int (nI (yWf n wa z i))]) hx hb hml hown hg (c_L_walk l D cI cB aS (y 0) (ybW n (yW n wa z i) h9) n (by rw [ybW_n (by omega), yW_n (by omega)]; exact hw0) (by first | assumption | omega) hn0) gm_337 sf_L_walk ⟨Nat.le_of_ble_eq_true rfl, Nat.le_of_ble_eq_true rfl⟩ ⟨rfl, rfl⟩ hc (RP.preS hK hP_24) rfl hl.1 rfl (Nat.le_of_ble_eq_true rfl) dL_law_945 ?_
        refine nv_iadd hx hb dL_law_948 ?_
        refine lv_istore (lv' := [(20, .int (nI (yWf n wa z i + (wkF n (nwF (ybW n (yW n wa z i) h9)) n)))), (23, .int (if lnW n (yW n wa z i) h9 then nI 2 else nI 1)), (22, .int (nI h9)), (18, .long (lN (ySd z (i + 1)))), (0, .ref q), (1, .ref (a 0)), (2, .ref (y 0)), (3, .ref (y 1)), (4, .ref (y 2)), (5, .ref (y 3)), (6, .ref (y 4)), (7, .int (nI trip)), (8, .int (nI (29 * trip))), (9, .int (nI n)), (10, .int owed), (11, .int (nI nd)), (12, .int (nI t)), (13, .int (nI x)), (16, .int (nI tm)), (17, .int (nI z)), (21, .int (nI i))]) hx hb dL_law_949 hl (by decide) rfl (fun ls hl => ?_)
        refine lv_aload_n hx hb dL_law_951 rfl (lv_at hl 6 rfl) ?_
        have hP_25 : va_P D vwCl [(y 0, .inl (cI, 21, .inl (ybW n (yW n wa z i) h9)))] _ := P_s1 hP ZW_g41
        have hC_26 : ([41] : List Nat).map (fun q_ => (ZW cI cB a y 0 n st ik td nd nh bs ktd knd knh kbs pg kd ag pa bo dm dn hh hn kag kpa kbo kdm kdn khh khn wb ps ty (ybW n (yW n wa z i) h9) wa ga tt ow : va_W)[q_]?) = List.map some ([(y 0, .inl (cI, 21, .inl (ybW n (yW n wa z i) h9)))] : va_W) := M_s1 ZW_g41
        have hDc_26 : va_D (fun _ => True) [(y 0, .inl (cI, 21, .inl (ybW n (yW n wa z i) h9)))] := (hD.sub (ws' := [(y 0, .inl (cI, 21, .inl (ybW n (yW n wa z i) h9)))]) [41] (by decide) hC_26).weaken (fun _ _ _ _ => trivial)
        refine wrSv (As := [.ref (y 0)]) (rest := []) hx hb hml hown hg (c_L_pass l D cI cB aS (y 0) (ybW n (yW n wa z i) h9) n hDc_26 (by rw [ybW_n (by omega), yW_n (by omega)]; exact hw0) (by first | assumption | omega)) gm_325 sf_L_pass ⟨Nat.le_of_ble_eq_true rfl, Nat.le_of_ble_eq_true rfl⟩ ⟨rfl, rfl⟩ hc (RP.preS hK hP_25) rfl hl.1 rfl (Nat.le_of_ble_eq_true rfl) dL_law_952 hS (inW_sub hD [41] hC_26) (fun u_27 H1 locs hpo_27 hP1 hk1 hS => ?_)
        have hP : va_P D vwCl (ZW cI cB a y 0 n st ik td nd nh bs ktd knd knh kbs pg kd ag pa bo dm dn hh hn kag kpa kbo kdm kdn khh khn wb ps ty (psF (ybW n (yW n wa z i) h9) n) wa ga tt ow) H1 := P_eq (wjoin (wc := [(y 0, .inl (cI, 21, .inl (ybW n (yW n wa z i) h9)))]) (w1 := [(y 0, .inl (cI, 21, .inl (psF (ybW n (yW n wa z i) h9) n)))]) hP hD [41] hC_26 rfl hP1 hk1) ZW_s41
        have hD : va_D A (ZW cI cB a y 0 n st ik td nd nh bs ktd knd knh kbs pg kd ag pa bo dm dn hh hn kag kpa kbo kdm kdn khh khn wb ps ty (psF (ybW n (yW n wa z i) h9) n) wa ga tt ow) := hD.addr (ZW_addr.trans ZW_addr.symm)
        clear hP1 hk1
        generalize H1 = H at hP hS ⊢
        refine lv_iinc (v := (nI (i + 1))) (lv' := [(21, .int (nI (i + 1))), (20, .int (nI (yWf n wa z i + (wkF n (nwF (ybW n (yW n wa z i) h9)) n)))), (23, .int (if lnW n (yW n wa z i) h9 then nI 2 else nI 1)), (22, .int (nI h9)), (18, .long (lN (ySd z (i + 1)))), (0, .ref q), (1, .ref (a 0)), (2, .ref (y 0)), (3, .ref (y 1)), (4, .ref (y 2)), (5, .ref (y 3)), (6, .ref (y 4)), (7, .int (nI trip)), (8, .int (nI (29 * trip))), (9, .int (nI n)), (10, .int owed), (11, .int (nI nd)), (12, .int (nI t)), (13, .int (nI x)), (16, .int (nI tm)), (17, .int (nI z))]) hx hb dL_law_955 hl (k := 20) rfl (nI_i1 _) (by decide) rfl (fun ls hl => ?_)
        refine lv_goto (tgt := 885) hx hb dL_law_958 (by decide) ?_
        exact ih_885 () _ _ _ (by omega) (trivial) (by show lv_has ls 25 [(0, .ref q), (1, .ref (a 0)), (2, .ref (y 0)), (3, .ref (y 1)), (4, .ref (y 2)), (5, .ref (y 3)), (6, .ref (y 4)), (7, .int (nI trip)), (8, .int (nI (29 * trip))), (9, .int (nI n)), (10, .int owed), (11, .int (nI nd)), (12, .int (nI t)), (13, .int (nI x)), (16, .int (nI tm)), (17, .int (nI z)), (18, .long (lN (ySd z (i + 1)))), (20, .int (nI (yWf n wa z (i + 1)))), (21, .int (nI (i + 1)))]; rw [show (yWf n wa z (i + 1)) = yWf n wa z i + (wkF n (nwF (ybW n (yW n wa z i) h9)) n) from (by rw [eh]; rfl)]; exact lv_sub hl [5, 6, 7, 8, 9, 10, 11, 12, 13, 14, 15, 16, 17, 18, 19, 20, 4, 1, 0] rfl) (by rw [eh] at hP; exact hP) (hD.addr (ZW_addr.trans ZW_addr.symm)) hS
