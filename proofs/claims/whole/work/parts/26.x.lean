abbrev rm_X2_numbersBy : Room := { frames := 3, cells := 0, slots := 0, locals := 66 }
theorem XW_wsets_46 {cI : ClassId} {a : Nat → Nat} {pl n st : Nat} {ik : Int32} {td nd nh : Nat} {bs : Int32} {ktd knd knh : Nat} {kbs : Int32} {pg kd ag pa bo dm dn hh hn kag kpa kbo kdm kdn khh khn wb ps ty : Nat → Int32} {z0 : Nat → Int32} : wsets (XW cI a pl n st ik td nd nh bs ktd knd knh kbs pg kd ag pa bo dm dn hh hn kag kpa kbo kdm kdn khh khn wb ps ty) [35, 36, 6, 13] [(a 35, .inr (1, [.ref (a 36)])), (a 36, .inl (cI, 6, .inl z0)), (a 6, .inr (1, [.ref (a 13)])), (a 13, .inl (cI, 6, .inl ag))] = XW cI a pl n st ik td nd nh bs ktd knd knh kbs pg kd ag pa bo dm dn hh hn kag kpa kbo kdm kdn khh khn z0 ps ty := rfl
theorem XW_wsets_47 {cI : ClassId} {a : Nat → Nat} {pl n st : Nat} {ik : Int32} {td nd nh : Nat} {bs : Int32} {ktd knd knh : Nat} {kbs : Int32} {pg kd ag pa bo dm dn hh hn kag kpa kbo kdm kdn khh khn wb ps ty : Nat → Int32} {z0 : Nat → Int32} : wsets (XW cI a pl n st ik td nd nh bs ktd knd knh kbs pg kd ag pa bo dm dn hh hn kag kpa kbo kdm kdn khh khn wb ps ty) [0, 3, 4, 35, 36] [(a 0, .inr (2, [.ref (a 1), .int (nI pl), .int (nI n), .int (nI st), .ref (a 3), .ref (a 5), .ref (a 20), .int ik, .ref (a 35), .ref (a 37), .ref (a 39)])), (a 3, .inr (1, [.ref (a 4)])), (a 4, .inl (cI, 6, .inl kd)), (a 35, .inr (1, [.ref (a 36)])), (a 36, .inl (cI, 6, .inl z0))] = XW cI a pl n st ik td nd nh bs ktd knd knh kbs pg kd ag pa bo dm dn hh hn kag kpa kbo kdm kdn khh khn z0 ps ty := rfl
set_option maxRecDepth 100000 in
set_option maxHeartbeats 4000000 in
theorem c_X2_numbersBy (l : Launch) (D : va_G) (cI cB : ClassId) (aS : Nat) (a : Nat → Nat) (pl n st : Nat) (ik : Int32) (td nd nh : Nat) (bs : Int32) (ktd knd knh : Nat) (kbs : Int32) (pg kd ag pa bo dm dn hh hn kag kpa kbo kdm kdn khh khn wb ps ty : Nat → Int32) (set : Nat) (hD0 : va_D (fun _ => True) (XW cI a pl n st ik td nd nh bs ktd knd knh kbs pg kd ag pa bo dm dn hh hn kag kpa kbo kdm kdn khh khn wb ps ty)) (q1 : set < 64) (hn6 : n ≤ 6) : Met l yX2_numbersBy (mw yX2_numbersBy cX2_numbersBy 3 (some .int)) rm_X2_numbersBy (RP D cI cB aS (XW cI a pl n st ik td nd nh bs ktd knd knh kbs pg kd ag pa bo dm dn hh hn kag kpa kbo kdm kdn khh khn wb ps ty) [.ref (a 0), .int (nI set)]) (wq mkI (XW cI a pl n st ik td nd nh bs ktd knd knh kbs pg kd ag pa bo dm dn hh hn kag kpa kbo kdm kdn khh khn wb ps ty) (fun (_ : Unit) => XW cI a pl n st ik td nd nh bs ktd knd knh kbs pg kd ag pa bo dm dn hh hn kag kpa kbo kdm kdn khh khn (brS n kd ag set n) ps ty) D (fun (r : Int32) (_ : Unit) => r = (nbV n kd ag set))) 0 0 (inW (XW cI a pl n st ik td nd nh bs ktd knd knh kbs pg kd ag pa bo dm dn hh hn kag kpa kbo kdm kdn khh khn wb ps ty)) := by
  refine met_of (by decide) (Nat.le_of_ble_eq_true rfl) ?_
  intro p e s m below meth c ls hx hb hr hml hown hg hlocks hin hK hP hl
  have hown : s.vm.findClass RX2 = some m.cls := hown
  have hl : lv_has ls 3 [(0, .ref (a 0)), (1, .int (nI set))] := hl
  have hD := hD0.here
  have hS0 : va_S (inW (XW cI a pl n st ik td nd nh bs ktd knd knh kbs pg kd ag pa bo dm dn hh hn kag kpa kbo kdm kdn khh khn wb ps ty)) s.heap s.heap [] := va_S.rf
  obtain ⟨H, hH⟩ : ∃ H, H = s.heap := ⟨_, rfl⟩
  have hS : va_S (inW (XW cI a pl n st ik td nd nh bs ktd knd knh kbs pg kd ag pa bo dm dn hh hn kag kpa kbo kdm kdn khh khn wb ps ty)) s.heap H [] := by rw [hH]; exact hS0
  clear hS0
  rw [← hH] at hP ⊢
  generalize hAe : inW (XW cI a pl n st ik td nd nh bs ktd knd knh kbs pg kd ag pa bo dm dn hh hn kag kpa kbo kdm kdn khh khn wb ps ty) = A at hD hS ⊢
  refine lv_aload_n hx hb dX2_numbersBy_0 rfl (lv_at hl 0 rfl) ?_
  refine va_get (D := D) (ci := 2) (v := .ref (a 35)) (C := RX2) (T := TX2) (N := 11) hx hb hg us_X2 hown hK.1 hP 0 XW_g0 rfl 8 (by decide) (hg _ gm_78) (fun _ h9 => h9) rfl dX2_numbersBy_1 ?_
  refine lv_aload_n hx hb dX2_numbersBy_4 rfl (lv_at hl 0 rfl) ?_
  refine va_get (D := D) (ci := 2) (v := .ref (a 5)) (C := RX2) (T := TX2) (N := 11) hx hb hg us_X2 hown hK.1 hP 0 XW_g0 rfl 5 (by decide) (hg _ gm_75) (fun _ h9 => h9) rfl dX2_numbersBy_5 ?_
  refine va_getN (D := D) (ci := 0) (v := .ref (a 6)) (C := RX0) (T := TX0) (N := 11) hx hb hg us_X0 hown hK.1 hP 5 XW_g5 rfl 4 (by decide) (nl_76 hK) (fun _ h9 => h9) rfl dX2_numbersBy_8 ?_
  have hP_1 : va_P D vwCl [(a 35, .inr (1, [.ref (a 36)])), (a 36, .inl (cI, 6, .inl wb)), (a 6, .inr (1, [.ref (a 13)])), (a 13, .inl (cI, 6, .inl ag))] _ := P_s4 hP XW_g35 XW_g36 XW_g6 XW_g13
  have hC_2 : ([35, 36, 6, 13] : List Nat).map (fun q_ => (XW cI a pl n st ik td nd nh bs ktd knd knh kbs pg kd ag pa bo dm dn hh hn kag kpa kbo kdm kdn khh khn wb ps ty : va_W)[q_]?) = List.map some ([(a 35, .inr (1, [.ref (a 36)])), (a 36, .inl (cI, 6, .inl wb)), (a 6, .inr (1, [.ref (a 13)])), (a 13, .inl (cI, 6, .inl ag))] : va_W) := M_s4 XW_g35 XW_g36 XW_g6 XW_g13
  have hDc_2 : va_D (fun _ => True) [(a 35, .inr (1, [.ref (a 36)])), (a 36, .inl (cI, 6, .inl wb)), (a 6, .inr (1, [.ref (a 13)])), (a 13, .inl (cI, 6, .inl ag))] := (hD.sub (ws' := [(a 35, .inr (1, [.ref (a 36)])), (a 36, .inl (cI, 6, .inl wb)), (a 6, .inr (1, [.ref (a 13)])), (a 13, .inl (cI, 6, .inl ag))]) [35, 36, 6, 13] (by decide) hC_2).weaken (fun _ _ _ _ => trivial)
  refine wrVv (As := [.ref (a 6)]) (rest := []) hx hb hml hown hg (c_X1_take l D cI cB aS (a 35) (a 36) 6 wb (a 6) (a 13) ag hDc_2 (by first | assumption | omega)) gm_297 vf_X1_take ⟨Nat.le_of_ble_eq_true rfl, Nat.le_of_ble_eq_true rfl⟩ ⟨rfl, rfl⟩ ⟨Nat.zero_le _, Nat.zero_le _⟩ (RP.preV hK hP_1 (q0 := 0) (ci := 1) rfl rfl) rfl hl.1 rfl (Nat.le_of_ble_eq_true rfl) dX2_numbersBy_11 hS (inW_sub hD [35, 36, 6, 13] hC_2) (fun u_3 H1 locs hpo_3 hP1 hk1 hS => ?_)
  have hP : va_P D vwCl (XW cI a pl n st ik td nd nh bs ktd knd knh kbs pg kd ag pa bo dm dn hh hn kag kpa kbo kdm kdn khh khn ag ps ty) H1 := P_eq (wjoin (wc := [(a 35, .inr (1, [.ref (a 36)])), (a 36, .inl (cI, 6, .inl wb)), (a 6, .inr (1, [.ref (a 13)])), (a 13, .inl (cI, 6, .inl ag))]) (w1 := [(a 35, .inr (1, [.ref (a 36)])), (a 36, .inl (cI, 6, .inl ag)), (a 6, .inr (1, [.ref (a 13)])), (a 13, .inl (cI, 6, .inl ag))]) hP hD [35, 36, 6, 13] hC_2 rfl hP1 hk1) XW_wsets_46
  have hD : va_D A (XW cI a pl n st ik td nd nh bs ktd knd knh kbs pg kd ag pa bo dm dn hh hn kag kpa kbo kdm kdn khh khn ag ps ty) := hD.addr (XW_addr.trans XW_addr.symm)
  clear hP1 hk1
  generalize H1 = H at hP hS ⊢
  refine lv_iconst (v := (nI 0)) hx hb dX2_numbersBy_14 (by decide) ?_
  refine lv_istore_n (lv' := [(2, .int (nI 0)), (0, .ref (a 0)), (1, .int (nI set))]) hx hb dX2_numbersBy_15 rfl hl (by decide) rfl (fun ls hl => ?_)
  -- loop at 16
  refine loopW (nL := 3) (S := Unit) (B := n) (I := fun i u => True) (lv := fun i u => [(0, .ref (a 0)), (1, .int (nI set)), (2, .int (nI i))]) (wf := fun i u => XW cI a pl n st ik td nd nh bs ktd knd knh kbs pg kd ag pa bo dm dn hh hn kag kpa kbo kdm kdn khh khn (brS n kd ag set i) ps ty) 0 () (Nat.zero_le _) (trivial) (lv_sub hl [1, 2, 0] rfl) hP (hD.addr (XW_addr.trans XW_addr.symm)) hS (fun i u ls H locs hj hI hl hP hD hS ih => ?_)
  have hP : va_P D vwCl (XW cI a pl n st ik td nd nh bs ktd knd knh kbs pg kd ag pa bo dm dn hh hn kag kpa kbo kdm kdn khh khn (brS n kd ag set i) ps ty) H := hP
  have hD : va_D A (XW cI a pl n st ik td nd nh bs ktd knd knh kbs pg kd ag pa bo dm dn hh hn kag kpa kbo kdm kdn khh khn (brS n kd ag set i) ps ty) := hD
  have hl : lv_has ls 3 [(0, .ref (a 0)), (1, .int (nI set)), (2, .int (nI i))] := hl
  have ih_16 := ih
  refine lv_iload_n hx hb dX2_numbersBy_16 rfl (lv_at hl 2 rfl) ?_
  refine lv_aload_n hx hb dX2_numbersBy_17 rfl (lv_at hl 0 rfl) ?_
  refine va_get (D := D) (ci := 2) (v := .int (nI n)) (C := RX2) (T := TX2) (N := 11) hx hb hg us_X2 hown hK.1 hP 0 XW_g0 rfl 2 (by decide) (hg _ gm_72) (fun _ h9 => h9) rfl dX2_numbersBy_18 ?_
  refine nv_icmp_ge (tgt := 47) hx hb dX2_numbersBy_21 (by omega) (by omega) (by decide) (fun c_21 => ?_) (fun c_21 => ?_)
  · skip
    refine lv_aload_n hx hb dX2_numbersBy_47 rfl (lv_at hl 0 rfl) ?_
    refine lv_aload_n hx hb dX2_numbersBy_48 rfl (lv_at hl 0 rfl) ?_
    refine va_get (D := D) (ci := 2) (v := .ref (a 35)) (C := RX2) (T := TX2) (N := 11) hx hb hg us_X2 hown hK.1 hP 0 XW_g0 rfl 8 (by decide) (hg _ gm_78) (fun _ h9 => h9) rfl dX2_numbersBy_49 ?_
    have hP_4 : va_P D vwCl [(a 0, .inr (2, [.ref (a 1), .int (nI pl), .int (nI n), .int (nI st), .ref (a 3), .ref (a 5), .ref (a 20), .int ik, .ref (a 35), .ref (a 37), .ref (a 39)])), (a 3, .inr (1, [.ref (a 4)])), (a 4, .inl (cI, 6, .inl kd)), (a 35, .inr (1, [.ref (a 36)])), (a 36, .inl (cI, 6, .inl (brS n kd ag set i)))] _ := P_s5 hP XW_g0 XW_g3 XW_g4 XW_g35 XW_g36
    refine rdV (As := [.ref (a 35)]) (rest := []) hx hb hml hown hg (c_X2_allNumbers l D cI cB aS (a 0) (a 3) (a 4) (a 35) (a 36) n ([.ref (a 1), .int (nI pl), .int (nI n), .int (nI st), .ref (a 3), .ref (a 5), .ref (a 20), .int ik, .ref (a 35), .ref (a 37), .ref (a 39)]) kd (brS n kd ag set i) rfl rfl (by first | assumption | omega)) gm_301 vf_X2_allNumbers ⟨Nat.le_of_ble_eq_true rfl, Nat.le_of_ble_eq_true rfl⟩ ⟨rfl, rfl⟩ ⟨Nat.zero_le _, Nat.zero_le _⟩ (RP.preV hK hP_4 (q0 := 0) (ci := 2) rfl rfl) rfl hl.1 rfl (Nat.le_of_ble_eq_true rfl) dX2_numbersBy_52 ?_
    subst hAe
    exact wr_i (w1 := fun (_ : Unit) => XW cI a pl n st ik td nd nh bs ktd knd knh kbs pg kd ag pa bo dm dn hh hn kag kpa kbo kdm kdn khh khn (brS n kd ag set n) ps ty) hx hb hr hlocks hS () (by rw [show i = n by omega] at hP; exact hP) dX2_numbersBy_55 (by unfold nbV; rw [show i = n by omega])
  · skip
    refine lv_iload_n hx hb dX2_numbersBy_24 rfl (lv_at hl 1 rfl) ?_
    refine lv_iload_n hx hb dX2_numbersBy_25 rfl (lv_at hl 2 rfl) ?_
    refine rdS (As := [.int (nI set), .int (nI i)]) (rest := []) hx hb hml hown hg (c_X2_isIn l D cI cB aS set i (by first | assumption | omega) (by first | assumption | omega)) gm_291 sf_X2_isIn ⟨Nat.le_of_ble_eq_true rfl, Nat.le_of_ble_eq_true rfl⟩ ⟨rfl, rfl⟩ ⟨Nat.zero_le _, Nat.zero_le _⟩ (RP.preS hK (fun k q h => by simp at h)) rfl hl.1 rfl (Nat.le_of_ble_eq_true rfl) dX2_numbersBy_26 ?_
    refine bv_if_eq (tgt := 41) hx hb dX2_numbersBy_29 (by decide) (fun c_29 => ?_) (fun c_29 => ?_)
    · skip
      refine lv_iinc (v := (nI (i + 1))) (lv' := [(2, .int (nI (i + 1))), (0, .ref (a 0)), (1, .int (nI set))]) hx hb dX2_numbersBy_41 hl (k := 2) rfl (nI_i1 _) (by decide) rfl (fun ls hl => ?_)
      refine lv_goto (tgt := 16) hx hb dX2_numbersBy_44 (by decide) ?_
      exact ih_16 () _ _ _ (by omega) (trivial) (lv_sub hl [1, 2, 0] rfl) (by rw [← brS_f c_29] at hP; exact hP) (hD.addr (XW_addr.trans XW_addr.symm)) hS
    · skip
      refine lv_aload_n hx hb dX2_numbersBy_32 rfl (lv_at hl 0 rfl) ?_
      refine lv_aload_n hx hb dX2_numbersBy_33 rfl (lv_at hl 0 rfl) ?_
      refine va_get (D := D) (ci := 2) (v := .ref (a 35)) (C := RX2) (T := TX2) (N := 11) hx hb hg us_X2 hown hK.1 hP 0 XW_g0 rfl 8 (by decide) (hg _ gm_78) (fun _ h9 => h9) rfl dX2_numbersBy_34 ?_
      refine lv_iload_n hx hb dX2_numbersBy_37 rfl (lv_at hl 2 rfl) ?_
      have hP_5 : va_P D vwCl [(a 0, .inr (2, [.ref (a 1), .int (nI pl), .int (nI n), .int (nI st), .ref (a 3), .ref (a 5), .ref (a 20), .int ik, .ref (a 35), .ref (a 37), .ref (a 39)])), (a 3, .inr (1, [.ref (a 4)])), (a 4, .inl (cI, 6, .inl kd)), (a 35, .inr (1, [.ref (a 36)])), (a 36, .inl (cI, 6, .inl (brS n kd ag set i)))] _ := P_s5 hP XW_g0 XW_g3 XW_g4 XW_g35 XW_g36
      have hC_6 : ([0, 3, 4, 35, 36] : List Nat).map (fun q_ => (XW cI a pl n st ik td nd nh bs ktd knd knh kbs pg kd ag pa bo dm dn hh hn kag kpa kbo kdm kdn khh khn (brS n kd ag set i) ps ty : va_W)[q_]?) = List.map some ([(a 0, .inr (2, [.ref (a 1), .int (nI pl), .int (nI n), .int (nI st), .ref (a 3), .ref (a 5), .ref (a 20), .int ik, .ref (a 35), .ref (a 37), .ref (a 39)])), (a 3, .inr (1, [.ref (a 4)])), (a 4, .inl (cI, 6, .inl kd)), (a 35, .inr (1, [.ref (a 36)])), (a 36, .inl (cI, 6, .inl (brS n kd ag set i)))] : va_W) := M_s5 XW_g0 XW_g3 XW_g4 XW_g35 XW_g36
      have hDc_6 : va_D (fun _ => True) [(a 0, .inr (2, [.ref (a 1), .int (nI pl), .int (nI n), .int (nI st), .ref (a 3), .ref (a 5), .ref (a 20), .int ik, .ref (a 35), .ref (a 37), .ref (a 39)])), (a 3, .inr (1, [.ref (a 4)])), (a 4, .inl (cI, 6, .inl kd)), (a 35, .inr (1, [.ref (a 36)])), (a 36, .inl (cI, 6, .inl (brS n kd ag set i)))] := (hD.sub (ws' := [(a 0, .inr (2, [.ref (a 1), .int (nI pl), .int (nI n), .int (nI st), .ref (a 3), .ref (a 5), .ref (a 20), .int ik, .ref (a 35), .ref (a 37), .ref (a 39)])), (a 3, .inr (1, [.ref (a 4)])), (a 4, .inl (cI, 6, .inl kd)), (a 35, .inr (1, [.ref (a 36)])), (a 36, .inl (cI, 6, .inl (brS n kd ag set i)))]) [0, 3, 4, 35, 36] (by decide) hC_6).weaken (fun _ _ _ _ => trivial)
      refine wrVv (As := [.ref (a 35), .int (nI i)]) (rest := []) hx hb hml hown hg (c_X2_bear l D cI cB aS (a 0) (a 3) (a 4) (a 35) (a 36) n ([.ref (a 1), .int (nI pl), .int (nI n), .int (nI st), .ref (a 3), .ref (a 5), .ref (a 20), .int ik, .ref (a 35), .ref (a 37), .ref (a 39)]) kd (brS n kd ag set i) i hDc_6 rfl rfl (by first | assumption | omega) (by first | assumption | omega)) gm_221 vf_X2_bear ⟨Nat.le_of_ble_eq_true rfl, Nat.le_of_ble_eq_true rfl⟩ ⟨rfl, rfl⟩ ⟨Nat.zero_le _, Nat.zero_le _⟩ (RP.preV hK hP_5 (q0 := 0) (ci := 2) rfl rfl) rfl hl.1 rfl (Nat.le_of_ble_eq_true rfl) dX2_numbersBy_38 hS (inW_sub hD [0, 3, 4, 35, 36] hC_6) (fun u_7 H1 locs hpo_7 hP1 hk1 hS => ?_)
      have hP : va_P D vwCl (XW cI a pl n st ik td nd nh bs ktd knd knh kbs pg kd ag pa bo dm dn hh hn kag kpa kbo kdm kdn khh khn (bearF n kd (brS n kd ag set i) i) ps ty) H1 := P_eq (wjoin (wc := [(a 0, .inr (2, [.ref (a 1), .int (nI pl), .int (nI n), .int (nI st), .ref (a 3), .ref (a 5), .ref (a 20), .int ik, .ref (a 35), .ref (a 37), .ref (a 39)])), (a 3, .inr (1, [.ref (a 4)])), (a 4, .inl (cI, 6, .inl kd)), (a 35, .inr (1, [.ref (a 36)])), (a 36, .inl (cI, 6, .inl (brS n kd ag set i)))]) (w1 := [(a 0, .inr (2, [.ref (a 1), .int (nI pl), .int (nI n), .int (nI st), .ref (a 3), .ref (a 5), .ref (a 20), .int ik, .ref (a 35), .ref (a 37), .ref (a 39)])), (a 3, .inr (1, [.ref (a 4)])), (a 4, .inl (cI, 6, .inl kd)), (a 35, .inr (1, [.ref (a 36)])), (a 36, .inl (cI, 6, .inl (bearF n kd (brS n kd ag set i) i)))]) hP hD [0, 3, 4, 35, 36] hC_6 rfl hP1 hk1) XW_wsets_47
      have hD : va_D A (XW cI a pl n st ik td nd nh bs ktd knd knh kbs pg kd ag pa bo dm dn hh hn kag kpa kbo kdm kdn khh khn (bearF n kd (brS n kd ag set i) i) ps ty) := hD.addr (XW_addr.trans XW_addr.symm)
      clear hP1 hk1
      generalize H1 = H at hP hS ⊢
      have e_8 : bearF n kd (brS n kd ag set i) i = brS n kd ag set (i + 1) := (brS_t c_29).symm
      rw [e_8] at hP hD
      have hP : va_P D vwCl (XW cI a pl n st ik td nd nh bs ktd knd knh kbs pg kd ag pa bo dm dn hh hn kag kpa kbo kdm kdn khh khn (brS n kd ag set (i + 1)) ps ty) H := hP
      have hD : va_D A (XW cI a pl n st ik td nd nh bs ktd knd knh kbs pg kd ag pa bo dm dn hh hn kag kpa kbo kdm kdn khh khn (brS n kd ag set (i + 1)) ps ty) := hD
      refine lv_iinc (v := (nI (i + 1))) (lv' := [(2, .int (nI (i + 1))), (0, .ref (a 0)), (1, .int (nI set))]) hx hb dX2_numbersBy_41 hl (k := 2) rfl (nI_i1 _) (by decide) rfl (fun ls hl => ?_)
      refine lv_goto (tgt := 16) hx hb dX2_numbersBy_44 (by decide) ?_
      exact ih_16 () _ _ _ (by omega) (trivial) (lv_sub hl [1, 2, 0] rfl) hP (hD.addr (XW_addr.trans XW_addr.symm)) hS
abbrev rm_X2_cheapestSet : Room := { frames := 4, cells := 0, slots := 0, locals := 88 }
theorem vf_X2_mayAllBear : vfacts RX2 yX2_mayAllBear cX2_mayAllBear 3 (some .boolean) 1 := ⟨⟨rfl, by decide +kernel, by decide +kernel, by decide +kernel⟩, gm_289, gm_696, gm_2, gm_290⟩
theorem vf_X2_numbersBy : vfacts RX2 yX2_numbersBy cX2_numbersBy 3 (some .int) 1 := ⟨⟨rfl, by decide +kernel, by decide +kernel, by decide +kernel⟩, gm_295, gm_697, gm_2, gm_296⟩
theorem sf_J6_bitCount_0f7a4 : sfacts RJ6 yJ6_bitCount_0f7a4 cJ6_bitCount_0f7a4 1 (some .int) 1 := ⟨⟨rfl, by decide +kernel, by decide +kernel, by decide +kernel⟩, gm_283, gm_11, gm_284⟩
set_option maxRecDepth 100000 in
set_option maxHeartbeats 4000000 in
theorem c_X2_cheapestSet (l : Launch) (D : va_G) (cI cB : ClassId) (aS : Nat) (a : Nat → Nat) (pl n st : Nat) (ik : Int32) (td nd nh : Nat) (bs : Int32) (ktd knd knh : Nat) (kbs : Int32) (pg kd ag pa bo dm dn hh hn kag kpa kbo kdm kdn khh khn wb ps ty : Nat → Int32) (x : Int32) (hD0 : va_D (fun _ => True) (XW cI a pl n st ik td nd nh bs ktd knd knh kbs pg kd ag pa bo dm dn hh hn kag kpa kbo kdm kdn khh khn wb ps ty)) (hn6 : n ≤ 6) : Met l yX2_cheapestSet (mw yX2_cheapestSet cX2_cheapestSet 5 (some .int)) rm_X2_cheapestSet (RP D cI cB aS (XW cI a pl n st ik td nd nh bs ktd knd knh kbs pg kd ag pa bo dm dn hh hn kag kpa kbo kdm kdn khh khn wb ps ty) [.ref (a 0), .int x]) (wq mkI (XW cI a pl n st ik td nd nh bs ktd knd knh kbs pg kd ag pa bo dm dn hh hn kag kpa kbo kdm kdn khh khn wb ps ty) (fun (u : (Nat → Int32)) => XW cI a pl n st ik td nd nh bs ktd knd knh kbs pg kd ag pa bo dm dn hh hn kag kpa kbo kdm kdn khh khn u ps ty) D (fun (r : Int32) (_ : (Nat → Int32)) => r = (o2i (bst n kd ag x (2 ^ n))))) 0 0 (inW (XW cI a pl n st ik td nd nh bs ktd knd knh kbs pg kd ag pa bo dm dn hh hn kag kpa kbo kdm kdn khh khn wb ps ty)) := by
  refine met_of (by decide) (Nat.le_of_ble_eq_true rfl) ?_
  intro p e s m below meth c ls hx hb hr hml hown hg hlocks hin hK hP hl
  have hown : s.vm.findClass RX2 = some m.cls := hown
  have hl : lv_has ls 5 [(0, .ref (a 0)), (1, .int x)] := hl
  have hD := hD0.here
  have hS0 : va_S (inW (XW cI a pl n st ik td nd nh bs ktd knd knh kbs pg kd ag pa bo dm dn hh hn kag kpa kbo kdm kdn khh khn wb ps ty)) s.heap s.heap [] := va_S.rf
  obtain ⟨H, hH⟩ : ∃ H, H = s.heap := ⟨_, rfl⟩
  have hS : va_S (inW (XW cI a pl n st ik td nd nh bs ktd knd knh kbs pg kd ag pa bo dm dn hh hn kag kpa kbo kdm kdn khh khn wb ps ty)) s.heap H [] := by rw [hH]; exact hS0
  clear hS0
  rw [← hH] at hP ⊢
  generalize hAe : inW (XW cI a pl n st ik td nd nh bs ktd knd knh kbs pg kd ag pa bo dm dn hh hn kag kpa kbo kdm kdn khh khn wb ps ty) = A at hD hS ⊢
  refine lv_iconst (v := (-1)) hx hb dX2_cheapestSet_0 (by decide) ?_
  refine lv_istore_n (lv' := [(2, .int (-1)), (0, .ref (a 0)), (1, .int x)]) hx hb dX2_cheapestSet_1 rfl hl (by decide) rfl (fun ls hl => ?_)
  refine lv_iconst (v := (nI 0)) hx hb dX2_cheapestSet_2 (by decide) ?_
  refine lv_istore_n (lv' := [(3, .int (nI 0)), (2, .int (-1)), (0, .ref (a 0)), (1, .int x)]) hx hb dX2_cheapestSet_3 rfl hl (by decide) rfl (fun ls hl => ?_)
  -- loop at 4
  refine loopW (nL := 5) (S := (Nat → Int32)) (B := (2 ^ n)) (I := fun i u => True) (lv := fun i u => [(0, .ref (a 0)), (1, .int x), (2, .int (o2i (bst n kd ag x i))), (3, .int (nI i))]) (wf := fun i u => XW cI a pl n st ik td nd nh bs ktd knd knh kbs pg kd ag pa bo dm dn hh hn kag kpa kbo kdm kdn khh khn u ps ty) 0 wb (Nat.zero_le _) (trivial) (by show lv_has ls 5 [(0, .ref (a 0)), (1, .int x), (2, .int (o2i (bst n kd ag x 0))), (3, .int (nI 0))]; exact lv_sub hl [2, 3, 1, 0] rfl) hP (hD.addr (XW_addr.trans XW_addr.symm)) hS (fun i u ls H locs hj hI hl hP hD hS ih => ?_)
  have hP : va_P D vwCl (XW cI a pl n st ik td nd nh bs ktd knd knh kbs pg kd ag pa bo dm dn hh hn kag kpa kbo kdm kdn khh khn u ps ty) H := hP
  have hD : va_D A (XW cI a pl n st ik td nd nh bs ktd knd knh kbs pg kd ag pa bo dm dn hh hn kag kpa kbo kdm kdn khh khn u ps ty) := hD
  have hl : lv_has ls 5 [(0, .ref (a 0)), (1, .int x), (2, .int (o2i (bst n kd ag x i))), (3, .int (nI i))] := hl
  have h64 := two_n hn6
  have hb64 : ∀ q, bst n kd ag x i = some q → q < 64 := fun q h => by have := bst_lt h; have := two_n hn6; omega
  have ih_4 := ih
  refine lv_iload_n hx hb dX2_cheapestSet_4 rfl (lv_at hl 3 rfl) ?_
  refine lv_iconst (v := (nI 1)) hx hb dX2_cheapestSet_5 (by decide) ?_
  refine lv_aload_n hx hb dX2_cheapestSet_6 rfl (lv_at hl 0 rfl) ?_
  refine va_get (D := D) (ci := 2) (v := .int (nI n)) (C := RX2) (T := TX2) (N := 11) hx hb hg us_X2 hown hK.1 hP 0 XW_g0 rfl 2 (by decide) (hg _ gm_72) (fun _ h9 => h9) rfl dX2_cheapestSet_7 ?_
  refine lv_ishl hx hb dX2_cheapestSet_10 ?_
  rw [show (((nI 1) <<< ((nI n) &&& 31)) : Int32) = (nI (2 ^ n)) from shl_n n hn6]
  refine nv_icmp_ge (tgt := 67) hx hb dX2_cheapestSet_11 (by omega) (by have := two_n hn6; omega) (by decide) (fun c_11 => ?_) (fun c_11 => ?_)
  · skip
    refine lv_iload_n hx hb dX2_cheapestSet_67 rfl (lv_at hl 2 rfl) ?_
    subst hAe
    exact wr_i (w1 := fun (u : (Nat → Int32)) => XW cI a pl n st ik td nd nh bs ktd knd knh kbs pg kd ag pa bo dm dn hh hn kag kpa kbo kdm kdn khh khn u ps ty) hx hb hr hlocks hS u hP dX2_cheapestSet_68 (by rw [show 2 ^ n = i by omega])
  · skip
    refine lv_iload_n hx hb dX2_cheapestSet_14 rfl (lv_at hl 2 rfl) ?_
    refine lv_iconst (v := (-1)) hx hb dX2_cheapestSet_15 (by decide) ?_
    refine lv_icmp_eq (tgt := 30) hx hb dX2_cheapestSet_16 (by decide) (fun c_16 => ?_) (fun c_16 => ?_)
    · skip
      refine lv_iconst (v := (nI 1)) hx hb dX2_cheapestSet_30 (by decide) ?_
      refine lv_goto (tgt := 35) hx hb dX2_cheapestSet_31 (by decide) ?_
      refine lv_istore (lv' := [(4, .int (nI 1)), (0, .ref (a 0)), (1, .int x), (2, .int (o2i (bst n kd ag x i))), (3, .int (nI i))]) hx hb dX2_cheapestSet_35 hl (by decide) rfl (fun ls hl => ?_)
      refine lv_iload hx hb dX2_cheapestSet_37 (lv_at hl 0 rfl) ?_
      refine nv_if_eq (tgt := 61) hx hb dX2_cheapestSet_39 (by omega) (by decide) (fun c_39 => ?_) (fun c_39 => ?_)
      · exact absurd c_39 (by decide)
      · skip
        refine lv_aload_n hx hb dX2_cheapestSet_42 rfl (lv_at hl 1 rfl) ?_
        refine lv_iload_n hx hb dX2_cheapestSet_43 rfl (lv_at hl 4 rfl) ?_
        refine rdV (As := [.int (nI i)]) (rest := []) hx hb hml hown hg (c_X2_mayAllBear l D cI cB aS _ pl n st ik td nd nh bs ktd knd knh kbs pg kd ag pa bo dm dn hh hn kag kpa kbo kdm kdn khh khn u ps ty i (by first | assumption | omega) (by first | assumption | omega)) gm_288 vf_X2_mayAllBear ⟨Nat.le_of_ble_eq_true rfl, Nat.le_of_ble_eq_true rfl⟩ ⟨rfl, rfl⟩ ⟨Nat.zero_le _, Nat.zero_le _⟩ (RP.preV hK hP (q0 := 0) (ci := 2) XW_g0 rfl) rfl hl.1 rfl (Nat.le_of_ble_eq_true rfl) dX2_cheapestSet_44 ?_
        refine bv_if_eq (tgt := 61) hx hb dX2_cheapestSet_47 (by decide) (fun c_47 => ?_) (fun c_47 => ?_)
        · skip
          refine lv_iinc (v := (nI (i + 1))) (lv' := [(3, .int (nI (i + 1))), (4, .int (nI 1)), (0, .ref (a 0)), (1, .int x), (2, .int (o2i (bst n kd ag x i)))]) hx hb dX2_cheapestSet_61 hl (k := 4) rfl (nI_i1 _) (by decide) rfl (fun ls hl => ?_)
          refine lv_goto (tgt := 4) hx hb dX2_cheapestSet_64 (by decide) ?_
          exact ih_4 u _ _ _ (by omega) (trivial) (by show lv_has ls 5 [(0, .ref (a 0)), (1, .int x), (2, .int (o2i (bst n kd ag x (i + 1)))), (3, .int (nI (i + 1)))]; rw [show (o2i (bst n kd ag x (i + 1))) = o2i (bst n kd ag x i) from (congrArg o2i (bst_f (fun h => c_47 h.2.1)))]; exact lv_sub hl [2, 3, 4, 0] rfl) hP (hD.addr (XW_addr.trans XW_addr.symm)) hS
        · skip
          refine lv_aload_n hx hb dX2_cheapestSet_50 rfl (lv_at hl 1 rfl) ?_
          refine lv_iload_n hx hb dX2_cheapestSet_51 rfl (lv_at hl 4 rfl) ?_
          refine wrVi (As := [.int (nI i)]) (rest := []) hx hb hml hown hg (c_X2_numbersBy l D cI cB aS _ pl n st ik td nd nh bs ktd knd knh kbs pg kd ag pa bo dm dn hh hn kag kpa kbo kdm kdn khh khn u ps ty i (hD.weaken (fun _ _ _ _ => trivial)) (by first | assumption | omega) (by first | assumption | omega)) gm_294 vf_X2_numbersBy ⟨Nat.le_of_ble_eq_true rfl, Nat.le_of_ble_eq_true rfl⟩ ⟨rfl, rfl⟩ ⟨Nat.zero_le _, Nat.zero_le _⟩ (RP.preV hK hP (q0 := 0) (ci := 2) XW_g0 rfl) rfl hl.1 rfl (Nat.le_of_ble_eq_true rfl) dX2_cheapestSet_52 hS (inW_all hD) (fun r_1 u_1 H1 locs hpo_1 hP1 hk1 hS => ?_)
          have hP : va_P D vwCl (XW cI a pl n st ik td nd nh bs ktd knd knh kbs pg kd ag pa bo dm dn hh hn kag kpa kbo kdm kdn khh khn (brS n kd ag i n) ps ty) H1 := hP1
          have hD : va_D A (XW cI a pl n st ik td nd nh bs ktd knd knh kbs pg kd ag pa bo dm dn hh hn kag kpa kbo kdm kdn khh khn (brS n kd ag i n) ps ty) := hD.addr (XW_addr.trans XW_addr.symm)
          clear hP1 hk1
          generalize H1 = H at hP hS ⊢
          have hpo_1 : r_1 = (nbV n kd ag i) := hpo_1
          subst hpo_1
          refine lv_iload_n hx hb dX2_cheapestSet_55 rfl (lv_at hl 2 rfl) ?_
          refine lv_icmp_gt (tgt := 61) hx hb dX2_cheapestSet_56 (by decide) (fun c_56 => ?_) (fun c_56 => ?_)
          · skip
            refine lv_iinc (v := (nI (i + 1))) (lv' := [(3, .int (nI (i + 1))), (4, .int (nI 1)), (0, .ref (a 0)), (1, .int x), (2, .int (o2i (bst n kd ag x i)))]) hx hb dX2_cheapestSet_61 hl (k := 4) rfl (nI_i1 _) (by decide) rfl (fun ls hl => ?_)
            refine lv_goto (tgt := 4) hx hb dX2_cheapestSet_64 (by decide) ?_
            exact ih_4 (brS n kd ag i n) _ _ _ (by omega) (trivial) (by show lv_has ls 5 [(0, .ref (a 0)), (1, .int x), (2, .int (o2i (bst n kd ag x (i + 1)))), (3, .int (nI (i + 1)))]; rw [show (o2i (bst n kd ag x (i + 1))) = o2i (bst n kd ag x i) from (congrArg o2i (bst_f (fun h => Int32.not_lt.mpr h.2.2 c_56)))]; exact lv_sub hl [2, 3, 4, 0] rfl) hP (hD.addr (XW_addr.trans XW_addr.symm)) hS
          · skip
            refine lv_iload_n hx hb dX2_cheapestSet_59 rfl (lv_at hl 4 rfl) ?_
            refine lv_istore_n (lv' := [(2, .int (nI i)), (4, .int (nI 1)), (0, .ref (a 0)), (1, .int x), (3, .int (nI i))]) hx hb dX2_cheapestSet_60 rfl hl (by decide) rfl (fun ls hl => ?_)
            refine lv_iinc (v := (nI (i + 1))) (lv' := [(3, .int (nI (i + 1))), (2, .int (nI i)), (4, .int (nI 1)), (0, .ref (a 0)), (1, .int x)]) hx hb dX2_cheapestSet_61 hl (k := 4) rfl (nI_i1 _) (by decide) rfl (fun ls hl => ?_)
            refine lv_goto (tgt := 4) hx hb dX2_cheapestSet_64 (by decide) ?_
            exact ih_4 (brS n kd ag i n) _ _ _ (by omega) (trivial) (by show lv_has ls 5 [(0, .ref (a 0)), (1, .int x), (2, .int (o2i (bst n kd ag x (i + 1)))), (3, .int (nI (i + 1)))]; rw [show ((o2i (bst n kd ag x (i + 1)))) = (nI i) from (congrArg o2i (bst_t (fw_n (o2i_eq c_16 (fun b h => by have := hb64 b h; omega))) c_47 (Int32.not_lt.mp c_56)))]; exact lv_sub hl [3, 4, 1, 0] rfl) hP (hD.addr (XW_addr.trans XW_addr.symm)) hS
    · skip
      obtain ⟨q, eq⟩ := o2i_ne c_16
      have hq64 := hb64 q eq
      rw [show o2i (bst n kd ag x i) = nI q from by rw [eq]; rfl] at hl
      refine lv_iload_n hx hb dX2_cheapestSet_19 rfl (lv_at hl 3 rfl) ?_
      refine rdS (As := [.int (nI i)]) (rest := []) hx hb hml hown hg (c_J6_bitCount_0f7a4 l D cI cB aS i (by first | assumption | omega)) gm_282 sf_J6_bitCount_0f7a4 ⟨Nat.le_of_ble_eq_true rfl, Nat.le_of_ble_eq_true rfl⟩ ⟨rfl, rfl⟩ ⟨Nat.zero_le _, Nat.zero_le _⟩ (RP.preS hK (fun k q h => by simp at h)) rfl hl.1 rfl (Nat.le_of_ble_eq_true rfl) dX2_cheapestSet_20 ?_
      refine lv_iload_n hx hb dX2_cheapestSet_23 rfl (lv_at hl 2 rfl) ?_
      refine rdS (As := [.int (nI q)]) (rest := [.int (nI (popF i))]) hx hb hml hown hg (c_J6_bitCount_0f7a4 l D cI cB aS q (by first | assumption | omega)) gm_282 sf_J6_bitCount_0f7a4 ⟨Nat.le_of_ble_eq_true rfl, Nat.le_of_ble_eq_true rfl⟩ ⟨rfl, rfl⟩ ⟨Nat.zero_le _, Nat.zero_le _⟩ (RP.preS hK (fun k q h => by simp at h)) rfl hl.1 rfl (Nat.le_of_ble_eq_true rfl) dX2_cheapestSet_24 ?_
      refine nv_icmp_ge (tgt := 34) hx hb dX2_cheapestSet_27 (by have := cn_le (fun k => i.testBit k) 6; unfold popF; omega) (by have := cn_le (fun k => q.testBit k) 6; unfold popF; omega) (by decide) (fun c_27 => ?_) (fun c_27 => ?_)
      · skip
        refine lv_iconst (v := (nI 0)) hx hb dX2_cheapestSet_34 (by decide) ?_
        refine lv_istore (lv' := [(4, .int (nI 0)), (0, .ref (a 0)), (1, .int x), (2, .int (nI q)), (3, .int (nI i))]) hx hb dX2_cheapestSet_35 hl (by decide) rfl (fun ls hl => ?_)
        refine lv_iload hx hb dX2_cheapestSet_37 (lv_at hl 0 rfl) ?_
        refine nv_if_eq (tgt := 61) hx hb dX2_cheapestSet_39 (by omega) (by decide) (fun c_39 => ?_) (fun c_39 => ?_)
        · skip
          refine lv_iinc (v := (nI (i + 1))) (lv' := [(3, .int (nI (i + 1))), (4, .int (nI 0)), (0, .ref (a 0)), (1, .int x), (2, .int (nI q))]) hx hb dX2_cheapestSet_61 hl (k := 4) rfl (nI_i1 _) (by decide) rfl (fun ls hl => ?_)
          refine lv_goto (tgt := 4) hx hb dX2_cheapestSet_64 (by decide) ?_
          exact ih_4 u _ _ _ (by omega) (trivial) (by show lv_has ls 5 [(0, .ref (a 0)), (1, .int x), (2, .int (o2i (bst n kd ag x (i + 1)))), (3, .int (nI (i + 1)))]; rw [show ((o2i (bst n kd ag x (i + 1)))) = (nI q) from (by rw [bst_f (fun h => absurd (fw_s eq h.1) (by omega)), eq]; rfl)]; exact lv_sub hl [2, 3, 4, 0] rfl) hP (hD.addr (XW_addr.trans XW_addr.symm)) hS
        · exact absurd rfl c_39
      · skip
        refine lv_iconst (v := (nI 1)) hx hb dX2_cheapestSet_30 (by decide) ?_
        refine lv_goto (tgt := 35) hx hb dX2_cheapestSet_31 (by decide) ?_
        refine lv_istore (lv' := [(4, .int (nI 1)), (0, .ref (a 0)), (1, .int x), (2, .int (nI q)), (3, .int (nI i))]) hx hb dX2_cheapestSet_35 hl (by decide) rfl (fun ls hl => ?_)
        refine lv_iload hx hb dX2_cheapestSet_37 (lv_at hl 0 rfl) ?_
        refine nv_if_eq (tgt := 61) hx hb dX2_cheapestSet_39 (by omega) (by decide) (fun c_39 => ?_) (fun c_39 => ?_)
        · exact absurd c_39 (by decide)
        · skip
          refine lv_aload_n hx hb dX2_cheapestSet_42 rfl (lv_at hl 1 rfl) ?_
          refine lv_iload_n hx hb dX2_cheapestSet_43 rfl (lv_at hl 4 rfl) ?_
          refine rdV (As := [.int (nI i)]) (rest := []) hx hb hml hown hg (c_X2_mayAllBear l D cI cB aS _ pl n st ik td nd nh bs ktd knd knh kbs pg kd ag pa bo dm dn hh hn kag kpa kbo kdm kdn khh khn u ps ty i (by first | assumption | omega) (by first | assumption | omega)) gm_288 vf_X2_mayAllBear ⟨Nat.le_of_ble_eq_true rfl, Nat.le_of_ble_eq_true rfl⟩ ⟨rfl, rfl⟩ ⟨Nat.zero_le _, Nat.zero_le _⟩ (RP.preV hK hP (q0 := 0) (ci := 2) XW_g0 rfl) rfl hl.1 rfl (Nat.le_of_ble_eq_true rfl) dX2_cheapestSet_44 ?_
          refine bv_if_eq (tgt := 61) hx hb dX2_cheapestSet_47 (by decide) (fun c_47 => ?_) (fun c_47 => ?_)
          · skip
            refine lv_iinc (v := (nI (i + 1))) (lv' := [(3, .int (nI (i + 1))), (4, .int (nI 1)), (0, .ref (a 0)), (1, .int x), (2, .int (nI q))]) hx hb dX2_cheapestSet_61 hl (k := 4) rfl (nI_i1 _) (by decide) rfl (fun ls hl => ?_)
            refine lv_goto (tgt := 4) hx hb dX2_cheapestSet_64 (by decide) ?_
            exact ih_4 u _ _ _ (by omega) (trivial) (by show lv_has ls 5 [(0, .ref (a 0)), (1, .int x), (2, .int (o2i (bst n kd ag x (i + 1)))), (3, .int (nI (i + 1)))]; rw [show ((o2i (bst n kd ag x (i + 1)))) = (nI q) from (by rw [bst_f (fun h => c_47 h.2.1), eq]; rfl)]; exact lv_sub hl [2, 3, 4, 0] rfl) hP (hD.addr (XW_addr.trans XW_addr.symm)) hS
          · skip
            refine lv_aload_n hx hb dX2_cheapestSet_50 rfl (lv_at hl 1 rfl) ?_
            refine lv_iload_n hx hb dX2_cheapestSet_51 rfl (lv_at hl 4 rfl) ?_
            refine wrVi (As := [.int (nI i)]) (rest := []) hx hb hml hown hg (c_X2_numbersBy l D cI cB aS _ pl n st ik td nd nh bs ktd knd knh kbs pg kd ag pa bo dm dn hh hn kag kpa kbo kdm kdn khh khn u ps ty i (hD.weaken (fun _ _ _ _ => trivial)) (by first | assumption | omega) (by first | assumption | omega)) gm_294 vf_X2_numbersBy ⟨Nat.le_of_ble_eq_true rfl, Nat.le_of_ble_eq_true rfl⟩ ⟨rfl, rfl⟩ ⟨Nat.zero_le _, Nat.zero_le _⟩ (RP.preV hK hP (q0 := 0) (ci := 2) XW_g0 rfl) rfl hl.1 rfl (Nat.le_of_ble_eq_true rfl) dX2_cheapestSet_52 hS (inW_all hD) (fun r_2 u_2 H1 locs hpo_2 hP1 hk1 hS => ?_)
            have hP : va_P D vwCl (XW cI a pl n st ik td nd nh bs ktd knd knh kbs pg kd ag pa bo dm dn hh hn kag kpa kbo kdm kdn khh khn (brS n kd ag i n) ps ty) H1 := hP1
            have hD : va_D A (XW cI a pl n st ik td nd nh bs ktd knd knh kbs pg kd ag pa bo dm dn hh hn kag kpa kbo kdm kdn khh khn (brS n kd ag i n) ps ty) := hD.addr (XW_addr.trans XW_addr.symm)
            clear hP1 hk1
            generalize H1 = H at hP hS ⊢
            have hpo_2 : r_2 = (nbV n kd ag i) := hpo_2
            subst hpo_2
            refine lv_iload_n hx hb dX2_cheapestSet_55 rfl (lv_at hl 2 rfl) ?_
            refine lv_icmp_gt (tgt := 61) hx hb dX2_cheapestSet_56 (by decide) (fun c_56 => ?_) (fun c_56 => ?_)
            · skip
              refine lv_iinc (v := (nI (i + 1))) (lv' := [(3, .int (nI (i + 1))), (4, .int (nI 1)), (0, .ref (a 0)), (1, .int x), (2, .int (nI q))]) hx hb dX2_cheapestSet_61 hl (k := 4) rfl (nI_i1 _) (by decide) rfl (fun ls hl => ?_)
              refine lv_goto (tgt := 4) hx hb dX2_cheapestSet_64 (by decide) ?_
              exact ih_4 (brS n kd ag i n) _ _ _ (by omega) (trivial) (by show lv_has ls 5 [(0, .ref (a 0)), (1, .int x), (2, .int (o2i (bst n kd ag x (i + 1)))), (3, .int (nI (i + 1)))]; rw [show ((o2i (bst n kd ag x (i + 1)))) = (nI q) from (by rw [bst_f (fun h => Int32.not_lt.mpr h.2.2 c_56), eq]; rfl)]; exact lv_sub hl [2, 3, 4, 0] rfl) hP (hD.addr (XW_addr.trans XW_addr.symm)) hS
            · skip
              refine lv_iload_n hx hb dX2_cheapestSet_59 rfl (lv_at hl 4 rfl) ?_
              refine lv_istore_n (lv' := [(2, .int (nI i)), (4, .int (nI 1)), (0, .ref (a 0)), (1, .int x), (3, .int (nI i))]) hx hb dX2_cheapestSet_60 rfl hl (by decide) rfl (fun ls hl => ?_)
              refine lv_iinc (v := (nI (i + 1))) (lv' := [(3, .int (nI (i + 1))), (2, .int (nI i)), (4, .int (nI 1)), (0, .ref (a 0)), (1, .int x)]) hx hb dX2_cheapestSet_61 hl (k := 4) rfl (nI_i1 _) (by decide) rfl (fun ls hl => ?_)
              refine lv_goto (tgt := 4) hx hb dX2_cheapestSet_64 (by decide) ?_
              exact ih_4 (brS n kd ag i n) _ _ _ (by omega) (trivial) (by show lv_has ls 5 [(0, .ref (a 0)), (1, .int x), (2, .int (o2i (bst n kd ag x (i + 1)))), (3, .int (nI (i + 1)))]; rw [show ((o2i (bst n kd ag x (i + 1)))) = (nI i) from (congrArg o2i (bst_t (fw_t eq (by omega)) c_47 (Int32.not_lt.mp c_56)))]; exact lv_sub hl [3, 4, 1, 0] rfl) hP (hD.addr (XW_addr.trans XW_addr.symm)) hS
abbrev rm_X2_cheap : Room := { frames := 5, cells := 0, slots := 0, locals := 112 }
theorem vf_X2_cheapestSet : vfacts RX2 yX2_cheapestSet cX2_cheapestSet 5 (some .int) 1 := ⟨⟨rfl, by decide +kernel, by decide +kernel, by decide +kernel⟩, gm_280, gm_695, gm_2, gm_281⟩
set_option maxRecDepth 100000 in
set_option maxHeartbeats 4000000 in
theorem c_X2_cheap (l : Launch) (D : va_G) (cI cB : ClassId) (aS : Nat) (a : Nat → Nat) (pl n st : Nat) (ik : Int32) (td nd nh : Nat) (bs : Int32) (ktd knd knh : Nat) (kbs : Int32) (pg kd ag pa bo dm dn hh hn kag kpa kbo kdm kdn khh khn wb ps ty : Nat → Int32) (x w : Int32) (hD0 : va_D (fun _ => True) (XW cI a pl n st ik td nd nh bs ktd knd knh kbs pg kd ag pa bo dm dn hh hn kag kpa kbo kdm kdn khh khn wb ps ty)) (hn6 : n ≤ 6) : Met l yX2_cheap (mw yX2_cheap cX2_cheap 4 (some .int)) rm_X2_cheap (RP D cI cB aS (XW cI a pl n st ik td nd nh bs ktd knd knh kbs pg kd ag pa bo dm dn hh hn kag kpa kbo kdm kdn khh khn wb ps ty) [.ref (a 0), .int x, .int w]) (wq mkI (XW cI a pl n st ik td nd nh bs ktd knd knh kbs pg kd ag pa bo dm dn hh hn kag kpa kbo kdm kdn khh khn wb ps ty) (fun (u : (Nat → Int32)) => XW cI a pl n st ik td nd nh bs ktd knd knh kbs pg kd ag pa bo dm dn hh hn kag kpa kbo kdm kdn khh khn u ps ty) D (fun (r : Int32) (_ : (Nat → Int32)) => r = (chF n kd ag x w))) 0 0 (inW (XW cI a pl n st ik td nd nh bs ktd knd knh kbs pg kd ag pa bo dm dn hh hn kag kpa kbo kdm kdn khh khn wb ps ty)) := by
  refine met_of (by decide) (Nat.le_of_ble_eq_true rfl) ?_
  intro p e s m below meth c ls hx hb hr hml hown hg hlocks hin hK hP hl
  have hown : s.vm.findClass RX2 = some m.cls := hown
  have hl : lv_has ls 4 [(0, .ref (a 0)), (1, .int x), (2, .int w)] := hl
  have hD := hD0.here
  have hS0 : va_S (inW (XW cI a pl n st ik td nd nh bs ktd knd knh kbs pg kd ag pa bo dm dn hh hn kag kpa kbo kdm kdn khh khn wb ps ty)) s.heap s.heap [] := va_S.rf
  obtain ⟨H, hH⟩ : ∃ H, H = s.heap := ⟨_, rfl⟩
  have hS : va_S (inW (XW cI a pl n st ik td nd nh bs ktd knd knh kbs pg kd ag pa bo dm dn hh hn kag kpa kbo kdm kdn khh khn wb ps ty)) s.heap H [] := by rw [hH]; exact hS0
  clear hS0
  rw [← hH] at hP ⊢
  generalize hAe : inW (XW cI a pl n st ik td nd nh bs ktd knd knh kbs pg kd ag pa bo dm dn hh hn kag kpa kbo kdm kdn khh khn wb ps ty) = A at hD hS ⊢
  refine lv_iload_n hx hb dX2_cheap_0 rfl (lv_at hl 1 rfl) ?_
  refine lv_if_lt (tgt := 20) hx hb dX2_cheap_1 (by decide) (fun c_1 => ?_) (fun c_1 => ?_)
  · skip
    refine lv_bipush (v := (-102)) hx hb dX2_cheap_20 (by decide) ?_
    subst hAe
    exact wr_i (w1 := fun (u : (Nat → Int32)) => XW cI a pl n st ik td nd nh bs ktd knd knh kbs pg kd ag pa bo dm dn hh hn kag kpa kbo kdm kdn khh khn u ps ty) hx hb hr hlocks hS wb hP dX2_cheap_22 ((if_neg (fun q => Int32.not_lt.mpr q.1.1 c_1)).symm)
  · skip
    refine lv_iload_n hx hb dX2_cheap_4 rfl (lv_at hl 1 rfl) ?_
    refine lv_sipush (v := (nI 400)) hx hb dX2_cheap_5 (by decide) ?_
    refine lv_icmp_gt (tgt := 20) hx hb dX2_cheap_8 (by decide) (fun c_8 => ?_) (fun c_8 => ?_)
    · skip
      refine lv_bipush (v := (-102)) hx hb dX2_cheap_20 (by decide) ?_
      subst hAe
      exact wr_i (w1 := fun (u : (Nat → Int32)) => XW cI a pl n st ik td nd nh bs ktd knd knh kbs pg kd ag pa bo dm dn hh hn kag kpa kbo kdm kdn khh khn u ps ty) hx hb hr hlocks hS wb hP dX2_cheap_22 ((if_neg (fun q => Int32.not_lt.mpr q.1.2 c_8)).symm)
    · skip
      refine lv_iload_n hx hb dX2_cheap_11 rfl (lv_at hl 2 rfl) ?_
      refine lv_if_lt (tgt := 20) hx hb dX2_cheap_12 (by decide) (fun c_12 => ?_) (fun c_12 => ?_)
      · skip
        refine lv_bipush (v := (-102)) hx hb dX2_cheap_20 (by decide) ?_
        subst hAe
        exact wr_i (w1 := fun (u : (Nat → Int32)) => XW cI a pl n st ik td nd nh bs ktd knd knh kbs pg kd ag pa bo dm dn hh hn kag kpa kbo kdm kdn khh khn u ps ty) hx hb hr hlocks hS wb hP dX2_cheap_22 ((if_neg (fun q => Int32.not_lt.mpr q.2.1 c_12)).symm)
      · skip
        refine lv_iload_n hx hb dX2_cheap_15 rfl (lv_at hl 2 rfl) ?_
        refine lv_iconst (v := (nI 1)) hx hb dX2_cheap_16 (by decide) ?_
        refine lv_icmp_le (tgt := 23) hx hb dX2_cheap_17 (by decide) (fun c_17 => ?_) (fun c_17 => ?_)
        · skip
          refine lv_aload_n hx hb dX2_cheap_23 rfl (lv_at hl 0 rfl) ?_
          refine va_get (D := D) (ci := 2) (v := .int (nI n)) (C := RX2) (T := TX2) (N := 11) hx hb hg us_X2 hown hK.1 hP 0 XW_g0 rfl 2 (by decide) (hg _ gm_72) (fun _ h9 => h9) rfl dX2_cheap_24 ?_
          refine nv_if_ne (tgt := 33) hx hb dX2_cheap_27 (by omega) (by decide) (fun c_27 => ?_) (fun c_27 => ?_)
          · skip
            refine lv_aload_n hx hb dX2_cheap_33 rfl (lv_at hl 0 rfl) ?_
            refine lv_iload_n hx hb dX2_cheap_34 rfl (lv_at hl 1 rfl) ?_
            refine wrVi (As := [.int x]) (rest := []) hx hb hml hown hg (c_X2_cheapestSet l D cI cB aS _ pl n st ik td nd nh bs ktd knd knh kbs pg kd ag pa bo dm dn hh hn kag kpa kbo kdm kdn khh khn wb ps ty x (hD.weaken (fun _ _ _ _ => trivial)) (by first | assumption | omega)) gm_279 vf_X2_cheapestSet ⟨Nat.le_of_ble_eq_true rfl, Nat.le_of_ble_eq_true rfl⟩ ⟨rfl, rfl⟩ ⟨Nat.zero_le _, Nat.zero_le _⟩ (RP.preV hK hP (q0 := 0) (ci := 2) XW_g0 rfl) rfl hl.1 rfl (Nat.le_of_ble_eq_true rfl) dX2_cheap_35 hS (inW_all hD) (fun r_1 u_1 H1 locs hpo_1 hP1 hk1 hS => ?_)
            have hP : va_P D vwCl (XW cI a pl n st ik td nd nh bs ktd knd knh kbs pg kd ag pa bo dm dn hh hn kag kpa kbo kdm kdn khh khn u_1 ps ty) H1 := hP1
            have hD : va_D A (XW cI a pl n st ik td nd nh bs ktd knd knh kbs pg kd ag pa bo dm dn hh hn kag kpa kbo kdm kdn khh khn u_1 ps ty) := hD.addr (XW_addr.trans XW_addr.symm)
            clear hP1 hk1
            generalize H1 = H at hP hS ⊢
            have hpo_1 : r_1 = (o2i (bst n kd ag x (2 ^ n))) := hpo_1
            subst hpo_1
            refine lv_istore_n (lv' := [(3, .int (o2i (bst n kd ag x (2 ^ n)))), (0, .ref (a 0)), (1, .int x), (2, .int w)]) hx hb dX2_cheap_38 rfl hl (by decide) rfl (fun ls hl => ?_)
            refine lv_iload_n hx hb dX2_cheap_39 rfl (lv_at hl 0 rfl) ?_
            refine lv_iconst (v := (-1)) hx hb dX2_cheap_40 (by decide) ?_
            refine lv_icmp_ne (tgt := 46) hx hb dX2_cheap_41 (by decide) (fun c_41 => ?_) (fun c_41 => ?_)
            · skip
              obtain ⟨q, eq⟩ := o2i_ne c_41
              have hq64 : q < 64 := by have := bst_lt eq; have := two_n hn6; omega
              rw [show o2i (bst n kd ag x (2 ^ n)) = nI q from by rw [eq]; rfl] at hl
              refine lv_iload_n hx hb dX2_cheap_46 rfl (lv_at hl 3 rfl) ?_
              refine lv_if_ne (tgt := 57) hx hb dX2_cheap_47 (by decide) (fun (c_47 : ¬ w = nI 0) => ?_) (fun (c_47 : w = nI 0) => ?_)
              · skip
                refine lv_iload_n hx hb dX2_cheap_57 rfl (lv_at hl 0 rfl) ?_
                subst hAe
                exact wr_i (w1 := fun (u : (Nat → Int32)) => XW cI a pl n st ik td nd nh bs ktd knd knh kbs pg kd ag pa bo dm dn hh hn kag kpa kbo kdm kdn khh khn u ps ty) hx hb hr hlocks hS u_1 hP dX2_cheap_58 (by rw [ch_ok c_1 c_8 c_12 c_17 c_27, chN_s eq, if_pos (one_of ⟨Int32.not_lt.mp c_12, c_17⟩ c_47)])
              · skip
                refine lv_iload_n hx hb dX2_cheap_50 rfl (lv_at hl 0 rfl) ?_
                refine rdS (As := [.int (nI q)]) (rest := []) hx hb hml hown hg (c_J6_bitCount_0f7a4 l D cI cB aS q (by first | assumption | omega)) gm_282 sf_J6_bitCount_0f7a4 ⟨Nat.le_of_ble_eq_true rfl, Nat.le_of_ble_eq_true rfl⟩ ⟨rfl, rfl⟩ ⟨Nat.zero_le _, Nat.zero_le _⟩ (RP.preS hK (fun k q h => by simp at h)) rfl hl.1 rfl (Nat.le_of_ble_eq_true rfl) dX2_cheap_51 ?_
                refine lv_goto (tgt := 58) hx hb dX2_cheap_54 (by decide) ?_
                subst hAe
                exact wr_i (w1 := fun (u : (Nat → Int32)) => XW cI a pl n st ik td nd nh bs ktd knd knh kbs pg kd ag pa bo dm dn hh hn kag kpa kbo kdm kdn khh khn u ps ty) hx hb hr hlocks hS u_1 hP dX2_cheap_58 (by rw [ch_ok c_1 c_8 c_12 c_17 c_27, chN_s eq, if_neg (zero_ne c_47)])
            · skip
              refine lv_iconst (v := (-1)) hx hb dX2_cheap_44 (by decide) ?_
              subst hAe
              exact wr_i (w1 := fun (u : (Nat → Int32)) => XW cI a pl n st ik td nd nh bs ktd knd knh kbs pg kd ag pa bo dm dn hh hn kag kpa kbo kdm kdn khh khn u ps ty) hx hb hr hlocks hS u_1 hP dX2_cheap_45 (by rw [ch_ok c_1 c_8 c_12 c_17 c_27, chN_n (o2i_eq c_41 (fun b h => by have := bst_lt h; have := two_n hn6; omega))])
          · skip
            refine lv_bipush (v := (-103)) hx hb dX2_cheap_30 (by decide) ?_
            subst hAe
            exact wr_i (w1 := fun (u : (Nat → Int32)) => XW cI a pl n st ik td nd nh bs ktd knd knh kbs pg kd ag pa bo dm dn hh hn kag kpa kbo kdm kdn khh khn u ps ty) hx hb hr hlocks hS wb hP dX2_cheap_32 (by unfold chF; rw [if_pos ⟨⟨Int32.not_lt.mp c_1, Int32.not_lt.mp c_8⟩, Int32.not_lt.mp c_12, c_17⟩, if_pos c_27])
        · skip
          refine lv_bipush (v := (-102)) hx hb dX2_cheap_20 (by decide) ?_
          subst hAe
          exact wr_i (w1 := fun (u : (Nat → Int32)) => XW cI a pl n st ik td nd nh bs ktd knd knh kbs pg kd ag pa bo dm dn hh hn kag kpa kbo kdm kdn khh khn u ps ty) hx hb hr hlocks hS wb hP dX2_cheap_22 ((if_neg (fun q => c_17 q.2.2)).symm)
abbrev rm_X2_markPossibleDays : Room := { frames := 3, cells := 0, slots := 0, locals := 66 }
theorem XW_wsets_48 {cI : ClassId} {a : Nat → Nat} {pl n st : Nat} {ik : Int32} {td nd nh : Nat} {bs : Int32} {ktd knd knh : Nat} {kbs : Int32} {pg kd ag pa bo dm dn hh hn kag kpa kbo kdm kdn khh khn wb ps ty : Nat → Int32} {z0 : Nat → Int32} : wsets (XW cI a pl n st ik td nd nh bs ktd knd knh kbs pg kd ag pa bo dm dn hh hn kag kpa kbo kdm kdn khh khn wb ps ty) [37, 38] [(a 37, .inr (1, [.ref (a 38)])), (a 38, .inl (cI, 31, .inl z0))] = XW cI a pl n st ik td nd nh bs ktd knd knh kbs pg kd ag pa bo dm dn hh hn kag kpa kbo kdm kdn khh khn wb z0 ty := rfl
set_option maxRecDepth 100000 in
set_option maxHeartbeats 4000000 in
theorem c_X2_markPossibleDays (l : Launch) (D : va_G) (cI cB : ClassId) (aS : Nat) (a : Nat → Nat) (pl n st : Nat) (ik : Int32) (td nd nh : Nat) (bs : Int32) (ktd knd knh : Nat) (kbs : Int32) (pg kd ag pa bo dm dn hh hn kag kpa kbo kdm kdn khh khn wb ps ty : Nat → Int32)  (hD0 : va_D (fun _ => True) (XW cI a pl n st ik td nd nh bs ktd knd knh kbs pg kd ag pa bo dm dn hh hn kag kpa kbo kdm kdn khh khn wb ps ty)) (hn6 : n ≤ 6) (qt : td ≤ 30) (qnh : nh ≤ 6) (qhh : hOK n hh nh) : Met l yX2_markPossibleDays (mw yX2_markPossibleDays cX2_markPossibleDays 4 (some .int)) rm_X2_markPossibleDays (RP D cI cB aS (XW cI a pl n st ik td nd nh bs ktd knd knh kbs pg kd ag pa bo dm dn hh hn kag kpa kbo kdm kdn khh khn wb ps ty) [.ref (a 0)]) (wq mkI (XW cI a pl n st ik td nd nh bs ktd knd knh kbs pg kd ag pa bo dm dn hh hn kag kpa kbo kdm kdn khh khn wb ps ty) (fun (_ : Unit) => XW cI a pl n st ik td nd nh bs ktd knd knh kbs pg kd ag pa bo dm dn hh hn kag kpa kbo kdm kdn khh khn wb (cpF (fun d => bi ((cbF kd ag pa hh hn td nh) d = true)) ps (td + 1)) ty) D (fun (r : Int32) (_ : Unit) => r = (nI (cn (cbF kd ag pa hh hn td nh) (td + 1))))) 0 0 (inW (XW cI a pl n st ik td nd nh bs ktd knd knh kbs pg kd ag pa bo dm dn hh hn kag kpa kbo kdm kdn khh khn wb ps ty)) := by
  refine met_of (by decide) (Nat.le_of_ble_eq_true rfl) ?_
  intro p e s m below meth c ls hx hb hr hml hown hg hlocks hin hK hP hl
  have hown : s.vm.findClass RX2 = some m.cls := hown
  have hl : lv_has ls 4 [(0, .ref (a 0))] := hl
  have hD := hD0.here
  have hS0 : va_S (inW (XW cI a pl n st ik td nd nh bs ktd knd knh kbs pg kd ag pa bo dm dn hh hn kag kpa kbo kdm kdn khh khn wb ps ty)) s.heap s.heap [] := va_S.rf
  obtain ⟨H, hH⟩ : ∃ H, H = s.heap := ⟨_, rfl⟩
  have hS : va_S (inW (XW cI a pl n st ik td nd nh bs ktd knd knh kbs pg kd ag pa bo dm dn hh hn kag kpa kbo kdm kdn khh khn wb ps ty)) s.heap H [] := by rw [hH]; exact hS0
  clear hS0
  rw [← hH] at hP ⊢
  generalize hAe : inW (XW cI a pl n st ik td nd nh bs ktd knd knh kbs pg kd ag pa bo dm dn hh hn kag kpa kbo kdm kdn khh khn wb ps ty) = A at hD hS ⊢
  refine lv_iconst (v := (nI 0)) hx hb dX2_markPossibleDays_0 (by decide) ?_
  refine lv_istore_n (lv' := [(1, .int (nI 0)), (0, .ref (a 0))]) hx hb dX2_markPossibleDays_1 rfl hl (by decide) rfl (fun ls hl => ?_)
  refine lv_iconst (v := (nI 0)) hx hb dX2_markPossibleDays_2 (by decide) ?_
  refine lv_istore_n (lv' := [(2, .int (nI 0)), (1, .int (nI 0)), (0, .ref (a 0))]) hx hb dX2_markPossibleDays_3 rfl hl (by decide) rfl (fun ls hl => ?_)
  -- loop at 4
  refine loopW (nL := 4) (S := Unit) (B := (td + 1)) (I := fun i u => True) (lv := fun i u => [(0, .ref (a 0)), (1, .int (nI (cn (cbF kd ag pa hh hn td nh) i))), (2, .int (nI i))]) (wf := fun i u => XW cI a pl n st ik td nd nh bs ktd knd knh kbs pg kd ag pa bo dm dn hh hn kag kpa kbo kdm kdn khh khn wb (cpF (fun d => bi ((cbF kd ag pa hh hn td nh) d = true)) ps i) ty) 0 () (Nat.zero_le _) (trivial) (by show lv_has ls 4 [(0, .ref (a 0)), (1, .int (nI (cn (cbF kd ag pa hh hn td nh) 0))), (2, .int (nI 0))]; exact lv_sub hl [2, 1, 0] rfl) (by show va_P D vwCl (XW cI a pl n st ik td nd nh bs ktd knd knh kbs pg kd ag pa bo dm dn hh hn kag kpa kbo kdm kdn khh khn wb (cpF (fun d => bi ((cbF kd ag pa hh hn td nh) d = true)) ps 0) ty) H; rw [cpF_0]; exact hP) (hD.addr (XW_addr.trans XW_addr.symm)) hS (fun i u ls H locs hj hI hl hP hD hS ih => ?_)
  have hP : va_P D vwCl (XW cI a pl n st ik td nd nh bs ktd knd knh kbs pg kd ag pa bo dm dn hh hn kag kpa kbo kdm kdn khh khn wb (cpF (fun d => bi ((cbF kd ag pa hh hn td nh) d = true)) ps i) ty) H := hP
  have hD : va_D A (XW cI a pl n st ik td nd nh bs ktd knd knh kbs pg kd ag pa bo dm dn hh hn kag kpa kbo kdm kdn khh khn wb (cpF (fun d => bi ((cbF kd ag pa hh hn td nh) d = true)) ps i) ty) := hD
  have hl : lv_has ls 4 [(0, .ref (a 0)), (1, .int (nI (cn (cbF kd ag pa hh hn td nh) i))), (2, .int (nI i))] := hl
  have ih_4 := ih
  refine lv_iload_n hx hb dX2_markPossibleDays_4 rfl (lv_at hl 2 rfl) ?_
  refine lv_aload_n hx hb dX2_markPossibleDays_5 rfl (lv_at hl 0 rfl) ?_
  refine va_get (D := D) (ci := 2) (v := .ref (a 5)) (C := RX2) (T := TX2) (N := 11) hx hb hg us_X2 hown hK.1 hP 0 XW_g0 rfl 5 (by decide) (hg _ gm_75) (fun _ h9 => h9) rfl dX2_markPossibleDays_6 ?_
  refine va_getN (D := D) (ci := 0) (v := .int (nI td)) (C := RX0) (T := TX0) (N := 11) hx hb hg us_X0 hown hK.1 hP 5 XW_g5 rfl 0 (by decide) (nl_112 hK) (fun _ h9 => h9) rfl dX2_markPossibleDays_9 ?_
  refine nv_icmp_gt (tgt := 51) hx hb dX2_markPossibleDays_12 (by omega) (by omega) (by decide) (fun c_12 => ?_) (fun c_12 => ?_)
  · skip
    refine lv_iload_n hx hb dX2_markPossibleDays_51 rfl (lv_at hl 1 rfl) ?_
    subst hAe
    exact wr_i (w1 := fun (_ : Unit) => XW cI a pl n st ik td nd nh bs ktd knd knh kbs pg kd ag pa bo dm dn hh hn kag kpa kbo kdm kdn khh khn wb (cpF (fun d => bi ((cbF kd ag pa hh hn td nh) d = true)) ps (td + 1)) ty) hx hb hr hlocks hS () (by rw [show i = td + 1 by omega] at hP; exact hP) dX2_markPossibleDays_52 (by rw [show i = td + 1 by omega])
  · skip
    refine lv_aload_n hx hb dX2_markPossibleDays_15 rfl (lv_at hl 0 rfl) ?_
    refine lv_iload_n hx hb dX2_markPossibleDays_16 rfl (lv_at hl 2 rfl) ?_
    refine rdV (As := [.int (nI i)]) (rest := []) hx hb hml hown hg (c_X2_canHaveBeen l D cI cB aS _ pl n st ik td nd nh bs ktd knd knh kbs pg kd ag pa bo dm dn hh hn kag kpa kbo kdm kdn khh khn wb (cpF (fun d => bi ((cbF kd ag pa hh hn td nh) d = true)) ps i) ty i (by first | assumption | omega) (by first | assumption | omega) (by first | assumption | omega) (by first | assumption | omega) (by first | assumption | omega)) gm_320 vf_X2_canHaveBeen ⟨Nat.le_of_ble_eq_true rfl, Nat.le_of_ble_eq_true rfl⟩ ⟨rfl, rfl⟩ ⟨Nat.zero_le _, Nat.zero_le _⟩ (RP.preV hK hP (q0 := 0) (ci := 2) XW_g0 rfl) rfl hl.1 rfl (Nat.le_of_ble_eq_true rfl) dX2_markPossibleDays_17 ?_
    refine lv_istore_n (lv' := [(3, .int (bi (cbF kd ag pa hh hn td nh i = true))), (0, .ref (a 0)), (1, .int (nI (cn (cbF kd ag pa hh hn td nh) i))), (2, .int (nI i))]) hx hb dX2_markPossibleDays_20 rfl hl (by decide) rfl (fun ls hl => ?_)
    refine lv_aload_n hx hb dX2_markPossibleDays_21 rfl (lv_at hl 1 rfl) ?_
    refine va_get (D := D) (ci := 2) (v := .ref (a 37)) (C := RX2) (T := TX2) (N := 11) hx hb hg us_X2 hown hK.1 hP 0 XW_g0 rfl 9 (by decide) (hg _ gm_79) (fun _ h9 => h9) rfl dX2_markPossibleDays_22 ?_
    refine lv_iload_n hx hb dX2_markPossibleDays_25 rfl (lv_at hl 3 rfl) ?_
    refine lv_iload_n hx hb dX2_markPossibleDays_26 rfl (lv_at hl 0 rfl) ?_
    refine bv_if_eq (tgt := 34) hx hb dX2_markPossibleDays_27 (by decide) (fun c_27 => ?_) (fun c_27 => ?_)
    · skip
      refine lv_iconst (v := (nI 0)) hx hb dX2_markPossibleDays_34 (by decide) ?_
      have hP_1 : va_P D vwCl [(a 37, .inr (1, [.ref (a 38)])), (a 38, .inl (cI, 31, .inl (cpF (fun d => bi ((cbF kd ag pa hh hn td nh) d = true)) ps i)))] _ := P_s2 hP XW_g37 XW_g38
      have hC_2 : ([37, 38] : List Nat).map (fun q_ => (XW cI a pl n st ik td nd nh bs ktd knd knh kbs pg kd ag pa bo dm dn hh hn kag kpa kbo kdm kdn khh khn wb (cpF (fun d => bi ((cbF kd ag pa hh hn td nh) d = true)) ps i) ty : va_W)[q_]?) = List.map some ([(a 37, .inr (1, [.ref (a 38)])), (a 38, .inl (cI, 31, .inl (cpF (fun d => bi ((cbF kd ag pa hh hn td nh) d = true)) ps i)))] : va_W) := M_s2 XW_g37 XW_g38
      have hDc_2 : va_D (fun _ => True) [(a 37, .inr (1, [.ref (a 38)])), (a 38, .inl (cI, 31, .inl (cpF (fun d => bi ((cbF kd ag pa hh hn td nh) d = true)) ps i)))] := (hD.sub (ws' := [(a 37, .inr (1, [.ref (a 38)])), (a 38, .inl (cI, 31, .inl (cpF (fun d => bi ((cbF kd ag pa hh hn td nh) d = true)) ps i)))]) [37, 38] (by decide) hC_2).weaken (fun _ _ _ _ => trivial)
      refine wrVv (As := [.int (nI i), .int (nI 0)]) (rest := []) hx hb hml hown hg (c_X1_put l D cI cB aS (a 37) (a 38) 31 (cpF (fun d => bi ((cbF kd ag pa hh hn td nh) d = true)) ps i) i (nI 0) hDc_2 (by first | assumption | omega) (by first | assumption | omega)) gm_96 vf_X1_put ⟨Nat.le_of_ble_eq_true rfl, Nat.le_of_ble_eq_true rfl⟩ ⟨rfl, rfl⟩ ⟨Nat.zero_le _, Nat.zero_le _⟩ (RP.preV hK hP_1 (q0 := 0) (ci := 1) rfl rfl) rfl hl.1 rfl (Nat.le_of_ble_eq_true rfl) dX2_markPossibleDays_35 hS (inW_sub hD [37, 38] hC_2) (fun u_3 H1 locs hpo_3 hP1 hk1 hS => ?_)
      have hP : va_P D vwCl (XW cI a pl n st ik td nd nh bs ktd knd knh kbs pg kd ag pa bo dm dn hh hn kag kpa kbo kdm kdn khh khn wb (upd (cpF (fun d => bi ((cbF kd ag pa hh hn td nh) d = true)) ps i) i (nI 0)) ty) H1 := P_eq (wjoin (wc := [(a 37, .inr (1, [.ref (a 38)])), (a 38, .inl (cI, 31, .inl (cpF (fun d => bi ((cbF kd ag pa hh hn td nh) d = true)) ps i)))]) (w1 := [(a 37, .inr (1, [.ref (a 38)])), (a 38, .inl (cI, 31, .inl (upd (cpF (fun d => bi ((cbF kd ag pa hh hn td nh) d = true)) ps i) i (nI 0))))]) hP hD [37, 38] hC_2 rfl hP1 hk1) XW_wsets_48
      have hD : va_D A (XW cI a pl n st ik td nd nh bs ktd knd knh kbs pg kd ag pa bo dm dn hh hn kag kpa kbo kdm kdn khh khn wb (upd (cpF (fun d => bi ((cbF kd ag pa hh hn td nh) d = true)) ps i) i (nI 0)) ty) := hD.addr (XW_addr.trans XW_addr.symm)
      clear hP1 hk1
      generalize H1 = H at hP hS ⊢
      have e_4 : upd (cpF (fun d => bi ((cbF kd ag pa hh hn td nh) d = true)) ps i) i (nI 0) = cpF (fun d => bi ((cbF kd ag pa hh hn td nh) d = true)) ps (i + 1) := (cpF_s (by first | exact (bi_f c_27).symm | exact (bi_t c_27).symm))
      rw [e_4] at hP hD
      have hP : va_P D vwCl (XW cI a pl n st ik td nd nh bs ktd knd knh kbs pg kd ag pa bo dm dn hh hn kag kpa kbo kdm kdn khh khn wb (cpF (fun d => bi ((cbF kd ag pa hh hn td nh) d = true)) ps (i + 1)) ty) H := hP
      have hD : va_D A (XW cI a pl n st ik td nd nh bs ktd knd knh kbs pg kd ag pa bo dm dn hh hn kag kpa kbo kdm kdn khh khn wb (cpF (fun d => bi ((cbF kd ag pa hh hn td nh) d = true)) ps (i + 1)) ty) := hD
      refine lv_iload_n hx hb dX2_markPossibleDays_38 rfl (lv_at hl 0 rfl) ?_
      refine bv_if_eq (tgt := 45) hx hb dX2_markPossibleDays_39 (by decide) (fun c_39 => ?_) (fun c_39 => ?_)
      · skip
        refine lv_iinc (v := (nI (i + 1))) (lv' := [(2, .int (nI (i + 1))), (3, .int (bi (cbF kd ag pa hh hn td nh i = true))), (0, .ref (a 0)), (1, .int (nI (cn (cbF kd ag pa hh hn td nh) i)))]) hx hb dX2_markPossibleDays_45 hl (k := 3) rfl (nI_i1 _) (by decide) rfl (fun ls hl => ?_)
        refine lv_goto (tgt := 4) hx hb dX2_markPossibleDays_48 (by decide) ?_
        exact ih_4 () _ _ _ (by omega) (trivial) (by show lv_has ls 4 [(0, .ref (a 0)), (1, .int (nI (cn (cbF kd ag pa hh hn td nh) (i + 1)))), (2, .int (nI (i + 1)))]; rw [show (cn (cbF kd ag pa hh hn td nh) (i + 1)) = cn (cbF kd ag pa hh hn td nh) i from (cn_f (Bool.eq_false_iff.mpr c_27))]; exact lv_sub hl [2, 3, 0] rfl) hP (hD.addr (XW_addr.trans XW_addr.symm)) hS
      · skip
        refine lv_iinc (v := (nI (cn (cbF kd ag pa hh hn td nh) i + 1))) (lv' := [(1, .int (nI (cn (cbF kd ag pa hh hn td nh) i + 1))), (3, .int (bi (cbF kd ag pa hh hn td nh i = true))), (0, .ref (a 0)), (2, .int (nI i))]) hx hb dX2_markPossibleDays_42 hl (k := 2) rfl (nI_i1 _) (by decide) rfl (fun ls hl => ?_)
        refine lv_iinc (v := (nI (i + 1))) (lv' := [(2, .int (nI (i + 1))), (1, .int (nI (cn (cbF kd ag pa hh hn td nh) i + 1))), (3, .int (bi (cbF kd ag pa hh hn td nh i = true))), (0, .ref (a 0))]) hx hb dX2_markPossibleDays_45 hl (k := 3) rfl (nI_i1 _) (by decide) rfl (fun ls hl => ?_)
        refine lv_goto (tgt := 4) hx hb dX2_markPossibleDays_48 (by decide) ?_
        exact ih_4 () _ _ _ (by omega) (trivial) (by show lv_has ls 4 [(0, .ref (a 0)), (1, .int (nI (cn (cbF kd ag pa hh hn td nh) (i + 1)))), (2, .int (nI (i + 1)))]; rw [show (cn (cbF kd ag pa hh hn td nh) (i + 1)) = cn (cbF kd ag pa hh hn td nh) i + 1 from (absurd c_39 c_27)]; exact lv_sub hl [3, 1, 0] rfl) hP (hD.addr (XW_addr.trans XW_addr.symm)) hS
    · skip
      refine lv_iconst (v := (nI 1)) hx hb dX2_markPossibleDays_30 (by decide) ?_
      refine lv_goto (tgt := 35) hx hb dX2_markPossibleDays_31 (by decide) ?_
      have hP_5 : va_P D vwCl [(a 37, .inr (1, [.ref (a 38)])), (a 38, .inl (cI, 31, .inl (cpF (fun d => bi ((cbF kd ag pa hh hn td nh) d = true)) ps i)))] _ := P_s2 hP XW_g37 XW_g38
      have hC_6 : ([37, 38] : List Nat).map (fun q_ => (XW cI a pl n st ik td nd nh bs ktd knd knh kbs pg kd ag pa bo dm dn hh hn kag kpa kbo kdm kdn khh khn wb (cpF (fun d => bi ((cbF kd ag pa hh hn td nh) d = true)) ps i) ty : va_W)[q_]?) = List.map some ([(a 37, .inr (1, [.ref (a 38)])), (a 38, .inl (cI, 31, .inl (cpF (fun d => bi ((cbF kd ag pa hh hn td nh) d = true)) ps i)))] : va_W) := M_s2 XW_g37 XW_g38
      have hDc_6 : va_D (fun _ => True) [(a 37, .inr (1, [.ref (a 38)])), (a 38, .inl (cI, 31, .inl (cpF (fun d => bi ((cbF kd ag pa hh hn td nh) d = true)) ps i)))] := (hD.sub (ws' := [(a 37, .inr (1, [.ref (a 38)])), (a 38, .inl (cI, 31, .inl (cpF (fun d => bi ((cbF kd ag pa hh hn td nh) d = true)) ps i)))]) [37, 38] (by decide) hC_6).weaken (fun _ _ _ _ => trivial)
      refine wrVv (As := [.int (nI i), .int (nI 1)]) (rest := []) hx hb hml hown hg (c_X1_put l D cI cB aS (a 37) (a 38) 31 (cpF (fun d => bi ((cbF kd ag pa hh hn td nh) d = true)) ps i) i (nI 1) hDc_6 (by first | assumption | omega) (by first | assumption | omega)) gm_96 vf_X1_put ⟨Nat.le_of_ble_eq_true rfl, Nat.le_of_ble_eq_true rfl⟩ ⟨rfl, rfl⟩ ⟨Nat.zero_le _, Nat.zero_le _⟩ (RP.preV hK hP_5 (q0 := 0) (ci := 1) rfl rfl) rfl hl.1 rfl (Nat.le_of_ble_eq_true rfl) dX2_markPossibleDays_35 hS (inW_sub hD [37, 38] hC_6) (fun u_7 H1 locs hpo_7 hP1 hk1 hS => ?_)
      have hP : va_P D vwCl (XW cI a pl n st ik td nd nh bs ktd knd knh kbs pg kd ag pa bo dm dn hh hn kag kpa kbo kdm kdn khh khn wb (upd (cpF (fun d => bi ((cbF kd ag pa hh hn td nh) d = true)) ps i) i (nI 1)) ty) H1 := P_eq (wjoin (wc := [(a 37, .inr (1, [.ref (a 38)])), (a 38, .inl (cI, 31, .inl (cpF (fun d => bi ((cbF kd ag pa hh hn td nh) d = true)) ps i)))]) (w1 := [(a 37, .inr (1, [.ref (a 38)])), (a 38, .inl (cI, 31, .inl (upd (cpF (fun d => bi ((cbF kd ag pa hh hn td nh) d = true)) ps i) i (nI 1))))]) hP hD [37, 38] hC_6 rfl hP1 hk1) XW_wsets_48
      have hD : va_D A (XW cI a pl n st ik td nd nh bs ktd knd knh kbs pg kd ag pa bo dm dn hh hn kag kpa kbo kdm kdn khh khn wb (upd (cpF (fun d => bi ((cbF kd ag pa hh hn td nh) d = true)) ps i) i (nI 1)) ty) := hD.addr (XW_addr.trans XW_addr.symm)
      clear hP1 hk1
      generalize H1 = H at hP hS ⊢
      have e_8 : upd (cpF (fun d => bi ((cbF kd ag pa hh hn td nh) d = true)) ps i) i (nI 1) = cpF (fun d => bi ((cbF kd ag pa hh hn td nh) d = true)) ps (i + 1) := (cpF_s (by first | exact (bi_f c_27).symm | exact (bi_t c_27).symm))
      rw [e_8] at hP hD
      have hP : va_P D vwCl (XW cI a pl n st ik td nd nh bs ktd knd knh kbs pg kd ag pa bo dm dn hh hn kag kpa kbo kdm kdn khh khn wb (cpF (fun d => bi ((cbF kd ag pa hh hn td nh) d = true)) ps (i + 1)) ty) H := hP
      have hD : va_D A (XW cI a pl n st ik td nd nh bs ktd knd knh kbs pg kd ag pa bo dm dn hh hn kag kpa kbo kdm kdn khh khn wb (cpF (fun d => bi ((cbF kd ag pa hh hn td nh) d = true)) ps (i + 1)) ty) := hD
      refine lv_iload_n hx hb dX2_markPossibleDays_38 rfl (lv_at hl 0 rfl) ?_
      refine bv_if_eq (tgt := 45) hx hb dX2_markPossibleDays_39 (by decide) (fun c_39 => ?_) (fun c_39 => ?_)
      · skip
        refine lv_iinc (v := (nI (i + 1))) (lv' := [(2, .int (nI (i + 1))), (3, .int (bi (cbF kd ag pa hh hn td nh i = true))), (0, .ref (a 0)), (1, .int (nI (cn (cbF kd ag pa hh hn td nh) i)))]) hx hb dX2_markPossibleDays_45 hl (k := 3) rfl (nI_i1 _) (by decide) rfl (fun ls hl => ?_)
        refine lv_goto (tgt := 4) hx hb dX2_markPossibleDays_48 (by decide) ?_
        exact ih_4 () _ _ _ (by omega) (trivial) (by show lv_has ls 4 [(0, .ref (a 0)), (1, .int (nI (cn (cbF kd ag pa hh hn td nh) (i + 1)))), (2, .int (nI (i + 1)))]; rw [show (cn (cbF kd ag pa hh hn td nh) (i + 1)) = cn (cbF kd ag pa hh hn td nh) i from (absurd c_27 c_39)]; exact lv_sub hl [2, 3, 0] rfl) hP (hD.addr (XW_addr.trans XW_addr.symm)) hS
      · skip
        refine lv_iinc (v := (nI (cn (cbF kd ag pa hh hn td nh) i + 1))) (lv' := [(1, .int (nI (cn (cbF kd ag pa hh hn td nh) i + 1))), (3, .int (bi (cbF kd ag pa hh hn td nh i = true))), (0, .ref (a 0)), (2, .int (nI i))]) hx hb dX2_markPossibleDays_42 hl (k := 2) rfl (nI_i1 _) (by decide) rfl (fun ls hl => ?_)
        refine lv_iinc (v := (nI (i + 1))) (lv' := [(2, .int (nI (i + 1))), (1, .int (nI (cn (cbF kd ag pa hh hn td nh) i + 1))), (3, .int (bi (cbF kd ag pa hh hn td nh i = true))), (0, .ref (a 0))]) hx hb dX2_markPossibleDays_45 hl (k := 3) rfl (nI_i1 _) (by decide) rfl (fun ls hl => ?_)
        refine lv_goto (tgt := 4) hx hb dX2_markPossibleDays_48 (by decide) ?_
        exact ih_4 () _ _ _ (by omega) (trivial) (by show lv_has ls 4 [(0, .ref (a 0)), (1, .int (nI (cn (cbF kd ag pa hh hn td nh) (i + 1)))), (2, .int (nI (i + 1)))]; rw [show (cn (cbF kd ag pa hh hn td nh) (i + 1)) = cn (cbF kd ag pa hh hn td nh) i + 1 from (cn_t c_27)]; exact lv_sub hl [3, 1, 0] rfl) hP (hD.addr (XW_addr.trans XW_addr.symm)) hS
abbrev rm_X2_mostLeftBy : Room := { frames := 2, cells := 0, slots := 0, locals := 44 }
theorem XW_wsets_49 {cI : ClassId} {a : Nat → Nat} {pl n st : Nat} {ik : Int32} {td nd nh : Nat} {bs : Int32} {ktd knd knh : Nat} {kbs : Int32} {pg kd ag pa bo dm dn hh hn kag kpa kbo kdm kdn khh khn wb ps ty : Nat → Int32} {z0 : Nat → Int32} : wsets (XW cI a pl n st ik td nd nh bs ktd knd knh kbs pg kd ag pa bo dm dn hh hn kag kpa kbo kdm kdn khh khn wb ps ty) [39, 40] [(a 39, .inr (1, [.ref (a 40)])), (a 40, .inl (cI, 40, .inl z0))] = XW cI a pl n st ik td nd nh bs ktd knd knh kbs pg kd ag pa bo dm dn hh hn kag kpa kbo kdm kdn khh khn wb ps z0 := rfl
set_option maxRecDepth 100000 in
set_option maxHeartbeats 4000000 in
theorem c_X2_mostLeftBy (l : Launch) (D : va_G) (cI cB : ClassId) (aS : Nat) (a : Nat → Nat) (pl n st : Nat) (ik : Int32) (td nd nh : Nat) (bs : Int32) (ktd knd knh : Nat) (kbs : Int32) (pg kd ag pa bo dm dn hh hn kag kpa kbo kdm kdn khh khn wb ps ty : Nat → Int32) (h : Nat) (hD0 : va_D (fun _ => True) (XW cI a pl n st ik td nd nh bs ktd knd knh kbs pg kd ag pa bo dm dn hh hn kag kpa kbo kdm kdn khh khn wb ps ty)) (qh : h < n) (hn6 : n ≤ 6) (qt : td ≤ 30) (qps : ∀ d, d ≤ td → ps d = bi ((cbF kd ag pa hh hn td nh) d = true)) (qv : v40 (nOf kd ag pa td h) td) : Met l yX2_mostLeftBy (mw yX2_mostLeftBy cX2_mostLeftBy 5 (some .int)) rm_X2_mostLeftBy (RP D cI cB aS (XW cI a pl n st ik td nd nh bs ktd knd knh kbs pg kd ag pa bo dm dn hh hn kag kpa kbo kdm kdn khh khn wb ps ty) [.ref (a 0), .int (nI h)]) (wq mkI (XW cI a pl n st ik td nd nh bs ktd knd knh kbs pg kd ag pa bo dm dn hh hn kag kpa kbo kdm kdn khh khn wb ps ty) (fun (_ : Unit) => XW cI a pl n st ik td nd nh bs ktd knd knh kbs pg kd ag pa bo dm dn hh hn kag kpa kbo kdm kdn khh khn wb ps (tyF (cbF kd ag pa hh hn td nh) (nOf kd ag pa td h) (td + 1))) D (fun (r : Int32) (_ : Unit) => r = (nI (woF (cbF kd ag pa hh hn td nh) (nOf kd ag pa td h) td)))) 0 0 (inW (XW cI a pl n st ik td nd nh bs ktd knd knh kbs pg kd ag pa bo dm dn hh hn kag kpa kbo kdm kdn khh khn wb ps ty)) := by
  refine met_of (by decide) (Nat.le_of_ble_eq_true rfl) ?_
  intro p e s m below meth c ls hx hb hr hml hown hg hlocks hin hK hP hl
  have hown : s.vm.findClass RX2 = some m.cls := hown
  have hl : lv_has ls 5 [(0, .ref (a 0)), (1, .int (nI h))] := hl
  have hD := hD0.here
  have hS0 : va_S (inW (XW cI a pl n st ik td nd nh bs ktd knd knh kbs pg kd ag pa bo dm dn hh hn kag kpa kbo kdm kdn khh khn wb ps ty)) s.heap s.heap [] := va_S.rf
  obtain ⟨H, hH⟩ : ∃ H, H = s.heap := ⟨_, rfl⟩
  have hS : va_S (inW (XW cI a pl n st ik td nd nh bs ktd knd knh kbs pg kd ag pa bo dm dn hh hn kag kpa kbo kdm kdn khh khn wb ps ty)) s.heap H [] := by rw [hH]; exact hS0
  clear hS0
  rw [← hH] at hP ⊢
  generalize hAe : inW (XW cI a pl n st ik td nd nh bs ktd knd knh kbs pg kd ag pa bo dm dn hh hn kag kpa kbo kdm kdn khh khn wb ps ty) = A at hD hS ⊢
  refine lv_aload_n hx hb dX2_mostLeftBy_0 rfl (lv_at hl 0 rfl) ?_
  refine va_get (D := D) (ci := 2) (v := .ref (a 39)) (C := RX2) (T := TX2) (N := 11) hx hb hg us_X2 hown hK.1 hP 0 XW_g0 rfl 10 (by decide) (hg _ gm_80) (fun _ h9 => h9) rfl dX2_mostLeftBy_1 ?_
  have hP_1 : va_P D vwCl [(a 39, .inr (1, [.ref (a 40)])), (a 40, .inl (cI, 40, .inl ty))] _ := P_s2 hP XW_g39 XW_g40
  have hC_2 : ([39, 40] : List Nat).map (fun q_ => (XW cI a pl n st ik td nd nh bs ktd knd knh kbs pg kd ag pa bo dm dn hh hn kag kpa kbo kdm kdn khh khn wb ps ty : va_W)[q_]?) = List.map some ([(a 39, .inr (1, [.ref (a 40)])), (a 40, .inl (cI, 40, .inl ty))] : va_W) := M_s2 XW_g39 XW_g40
  have hDc_2 : va_D (fun _ => True) [(a 39, .inr (1, [.ref (a 40)])), (a 40, .inl (cI, 40, .inl ty))] := (hD.sub (ws' := [(a 39, .inr (1, [.ref (a 40)])), (a 40, .inl (cI, 40, .inl ty))]) [39, 40] (by decide) hC_2).weaken (fun _ _ _ _ => trivial)
  refine wrVv (As := []) (rest := []) hx hb hml hown hg (c_X1_clear l D cI cB aS (a 39) (a 40) 40 ty hDc_2 (by first | assumption | omega)) gm_333 vf_X1_clear ⟨Nat.le_of_ble_eq_true rfl, Nat.le_of_ble_eq_true rfl⟩ ⟨rfl, rfl⟩ ⟨Nat.zero_le _, Nat.zero_le _⟩ (RP.preV hK hP_1 (q0 := 0) (ci := 1) rfl rfl) rfl hl.1 rfl (Nat.le_of_ble_eq_true rfl) dX2_mostLeftBy_4 hS (inW_sub hD [39, 40] hC_2) (fun u_3 H1 locs hpo_3 hP1 hk1 hS => ?_)
  have hP : va_P D vwCl (XW cI a pl n st ik td nd nh bs ktd knd knh kbs pg kd ag pa bo dm dn hh hn kag kpa kbo kdm kdn khh khn wb ps (fun _ => nI 0)) H1 := P_eq (wjoin (wc := [(a 39, .inr (1, [.ref (a 40)])), (a 40, .inl (cI, 40, .inl ty))]) (w1 := [(a 39, .inr (1, [.ref (a 40)])), (a 40, .inl (cI, 40, .inl (fun _ => nI 0)))]) hP hD [39, 40] hC_2 rfl hP1 hk1) XW_wsets_49
  have hD : va_D A (XW cI a pl n st ik td nd nh bs ktd knd knh kbs pg kd ag pa bo dm dn hh hn kag kpa kbo kdm kdn khh khn wb ps (fun _ => nI 0)) := hD.addr (XW_addr.trans XW_addr.symm)
  clear hP1 hk1
  generalize H1 = H at hP hS ⊢
  refine lv_iconst (v := (nI 0)) hx hb dX2_mostLeftBy_7 (by decide) ?_
  refine lv_istore_n (lv' := [(2, .int (nI 0)), (0, .ref (a 0)), (1, .int (nI h))]) hx hb dX2_mostLeftBy_8 rfl hl (by decide) rfl (fun ls hl => ?_)
  refine lv_iconst (v := (nI 0)) hx hb dX2_mostLeftBy_9 (by decide) ?_
  refine lv_istore_n (lv' := [(3, .int (nI 0)), (2, .int (nI 0)), (0, .ref (a 0)), (1, .int (nI h))]) hx hb dX2_mostLeftBy_10 rfl hl (by decide) rfl (fun ls hl => ?_)
  -- loop at 11
  refine loopW (nL := 5) (S := Unit) (B := (td + 1)) (I := fun i u => True) (lv := fun i u => [(0, .ref (a 0)), (1, .int (nI h)), (2, .int (nI (moF (cbF kd ag pa hh hn td nh) (nOf kd ag pa td h) i))), (3, .int (nI i))]) (wf := fun i u => XW cI a pl n st ik td nd nh bs ktd knd knh kbs pg kd ag pa bo dm dn hh hn kag kpa kbo kdm kdn khh khn wb ps (tyF (cbF kd ag pa hh hn td nh) (nOf kd ag pa td h) i)) 0 () (Nat.zero_le _) (trivial) (by show lv_has ls 5 [(0, .ref (a 0)), (1, .int (nI h)), (2, .int (nI (moF (cbF kd ag pa hh hn td nh) (nOf kd ag pa td h) 0))), (3, .int (nI 0))]; exact lv_sub hl [2, 3, 1, 0] rfl) hP (hD.addr (XW_addr.trans XW_addr.symm)) hS (fun i u ls H locs hj hI hl hP hD hS ih => ?_)
  have hP : va_P D vwCl (XW cI a pl n st ik td nd nh bs ktd knd knh kbs pg kd ag pa bo dm dn hh hn kag kpa kbo kdm kdn khh khn wb ps (tyF (cbF kd ag pa hh hn td nh) (nOf kd ag pa td h) i)) H := hP
  have hD : va_D A (XW cI a pl n st ik td nd nh bs ktd knd knh kbs pg kd ag pa bo dm dn hh hn kag kpa kbo kdm kdn khh khn wb ps (tyF (cbF kd ag pa hh hn td nh) (nOf kd ag pa td h) i)) := hD
  have hl : lv_has ls 5 [(0, .ref (a 0)), (1, .int (nI h)), (2, .int (nI (moF (cbF kd ag pa hh hn td nh) (nOf kd ag pa td h) i))), (3, .int (nI i))] := hl
  have ih_11 := ih
  refine lv_iload_n hx hb dX2_mostLeftBy_11 rfl (lv_at hl 3 rfl) ?_
  refine lv_aload_n hx hb dX2_mostLeftBy_12 rfl (lv_at hl 0 rfl) ?_
  refine va_get (D := D) (ci := 2) (v := .ref (a 5)) (C := RX2) (T := TX2) (N := 11) hx hb hg us_X2 hown hK.1 hP 0 XW_g0 rfl 5 (by decide) (hg _ gm_75) (fun _ h9 => h9) rfl dX2_mostLeftBy_13 ?_
  refine va_getN (D := D) (ci := 0) (v := .int (nI td)) (C := RX0) (T := TX0) (N := 11) hx hb hg us_X0 hown hK.1 hP 5 XW_g5 rfl 0 (by decide) (nl_112 hK) (fun _ h9 => h9) rfl dX2_mostLeftBy_16 ?_
  refine nv_icmp_gt (tgt := 72) hx hb dX2_mostLeftBy_19 (by omega) (by omega) (by decide) (fun c_19 => ?_) (fun c_19 => ?_)
  · skip
    refine lv_iload_n hx hb dX2_mostLeftBy_72 rfl (lv_at hl 2 rfl) ?_
    subst hAe
    exact wr_i (w1 := fun (_ : Unit) => XW cI a pl n st ik td nd nh bs ktd knd knh kbs pg kd ag pa bo dm dn hh hn kag kpa kbo kdm kdn khh khn wb ps (tyF (cbF kd ag pa hh hn td nh) (nOf kd ag pa td h) (td + 1))) hx hb hr hlocks hS () (by rw [show i = td + 1 by omega] at hP; exact hP) dX2_mostLeftBy_73 (by rw [mo_wo (show i = td + 1 by omega)])
  · skip
    refine lv_aload_n hx hb dX2_mostLeftBy_22 rfl (lv_at hl 0 rfl) ?_
    refine va_get (D := D) (ci := 2) (v := .ref (a 37)) (C := RX2) (T := TX2) (N := 11) hx hb hg us_X2 hown hK.1 hP 0 XW_g0 rfl 9 (by decide) (hg _ gm_79) (fun _ h9 => h9) rfl dX2_mostLeftBy_23 ?_
    refine lv_iload_n hx hb dX2_mostLeftBy_26 rfl (lv_at hl 3 rfl) ?_
    have hP_4 : va_P D vwCl [(a 37, .inr (1, [.ref (a 38)])), (a 38, .inl (cI, 31, .inl ps))] _ := P_s2 hP XW_g37 XW_g38
    refine rdV (As := [.int (nI i)]) (rest := []) hx hb hml hown hg (c_X1_at l D cI cB aS (a 37) (a 38) 31 ps i (by first | assumption | omega) (by first | assumption | omega)) gm_108 vf_X1_at ⟨Nat.le_of_ble_eq_true rfl, Nat.le_of_ble_eq_true rfl⟩ ⟨rfl, rfl⟩ ⟨Nat.zero_le _, Nat.zero_le _⟩ (RP.preV hK hP_4 (q0 := 0) (ci := 1) rfl rfl) rfl hl.1 rfl (Nat.le_of_ble_eq_true rfl) dX2_mostLeftBy_27 ?_
    rw [show ((ps i) : Int32) = (bi ((cbF kd ag pa hh hn td nh) i = true)) from qps i (by omega)]
    refine lv_iconst (v := (nI 1)) hx hb dX2_mostLeftBy_30 (by decide) ?_
    refine lv_icmp_ne (tgt := 66) hx hb dX2_mostLeftBy_31 (by decide) (fun c_31 => ?_) (fun c_31 => ?_)
    · skip
      refine lv_iinc (v := (nI (i + 1))) (lv' := [(3, .int (nI (i + 1))), (0, .ref (a 0)), (1, .int (nI h)), (2, .int (nI (moF (cbF kd ag pa hh hn td nh) (nOf kd ag pa td h) i)))]) hx hb dX2_mostLeftBy_66 hl (k := 3) rfl (nI_i1 _) (by decide) rfl (fun ls hl => ?_)
      refine lv_goto (tgt := 11) hx hb dX2_mostLeftBy_69 (by decide) ?_
      exact ih_11 () _ _ _ (by omega) (trivial) (by show lv_has ls 5 [(0, .ref (a 0)), (1, .int (nI h)), (2, .int (nI (moF (cbF kd ag pa hh hn td nh) (nOf kd ag pa td h) (i + 1)))), (3, .int (nI (i + 1)))]; rw [show (moF (cbF kd ag pa hh hn td nh) (nOf kd ag pa td h) (i + 1)) = moF (cbF kd ag pa hh hn td nh) (nOf kd ag pa td h) i from (mo_f (fun q => c_31 (bi_one.mpr q)))]; exact lv_sub hl [1, 2, 3, 0] rfl) (by rw [← ty_f (fun q => c_31 (bi_one.mpr q))] at hP; exact hP) (hD.addr (XW_addr.trans XW_addr.symm)) hS
    · skip
      refine lv_aload_n hx hb dX2_mostLeftBy_34 rfl (lv_at hl 0 rfl) ?_
      refine lv_iload_n hx hb dX2_mostLeftBy_35 rfl (lv_at hl 1 rfl) ?_
      refine lv_iload_n hx hb dX2_mostLeftBy_36 rfl (lv_at hl 3 rfl) ?_
      refine rdV (As := [.int (nI h), .int (nI i)]) (rest := []) hx hb hml hown hg (c_X2_numberOn l D cI cB aS _ pl n st ik td nd nh bs ktd knd knh kbs pg kd ag pa bo dm dn hh hn kag kpa kbo kdm kdn khh khn wb ps (tyF (cbF kd ag pa hh hn td nh) (nOf kd ag pa td h) i) h i (by first | assumption | omega) (by first | assumption | omega) (by first | assumption | omega) (by first | assumption | omega)) gm_201 vf_X2_numberOn ⟨Nat.le_of_ble_eq_true rfl, Nat.le_of_ble_eq_true rfl⟩ ⟨rfl, rfl⟩ ⟨Nat.zero_le _, Nat.zero_le _⟩ (RP.preV hK hP (q0 := 0) (ci := 2) XW_g0 rfl) rfl hl.1 rfl (Nat.le_of_ble_eq_true rfl) dX2_mostLeftBy_37 ?_
      rw [show ((numOn kd ag pa td h i) : Int32) = (nI (((nOf kd ag pa td h) i).toNatClampNeg)) from (qv i (by omega)).2]
      refine lv_istore (lv' := [(4, .int (nI (((nOf kd ag pa td h) i).toNatClampNeg))), (0, .ref (a 0)), (1, .int (nI h)), (2, .int (nI (moF (cbF kd ag pa hh hn td nh) (nOf kd ag pa td h) i))), (3, .int (nI i))]) hx hb dX2_mostLeftBy_40 hl (by decide) rfl (fun ls hl => ?_)
      refine lv_aload_n hx hb dX2_mostLeftBy_42 rfl (lv_at hl 1 rfl) ?_
      refine va_get (D := D) (ci := 2) (v := .ref (a 39)) (C := RX2) (T := TX2) (N := 11) hx hb hg us_X2 hown hK.1 hP 0 XW_g0 rfl 10 (by decide) (hg _ gm_80) (fun _ h9 => h9) rfl dX2_mostLeftBy_43 ?_
      refine lv_iload hx hb dX2_mostLeftBy_46 (lv_at hl 0 rfl) ?_
      refine lv_iconst (v := (nI 1)) hx hb dX2_mostLeftBy_48 (by decide) ?_
      have hP_5 : va_P D vwCl [(a 39, .inr (1, [.ref (a 40)])), (a 40, .inl (cI, 40, .inl (tyF (cbF kd ag pa hh hn td nh) (nOf kd ag pa td h) i)))] _ := P_s2 hP XW_g39 XW_g40
      have hC_6 : ([39, 40] : List Nat).map (fun q_ => (XW cI a pl n st ik td nd nh bs ktd knd knh kbs pg kd ag pa bo dm dn hh hn kag kpa kbo kdm kdn khh khn wb ps (tyF (cbF kd ag pa hh hn td nh) (nOf kd ag pa td h) i) : va_W)[q_]?) = List.map some ([(a 39, .inr (1, [.ref (a 40)])), (a 40, .inl (cI, 40, .inl (tyF (cbF kd ag pa hh hn td nh) (nOf kd ag pa td h) i)))] : va_W) := M_s2 XW_g39 XW_g40
      have hDc_6 : va_D (fun _ => True) [(a 39, .inr (1, [.ref (a 40)])), (a 40, .inl (cI, 40, .inl (tyF (cbF kd ag pa hh hn td nh) (nOf kd ag pa td h) i)))] := (hD.sub (ws' := [(a 39, .inr (1, [.ref (a 40)])), (a 40, .inl (cI, 40, .inl (tyF (cbF kd ag pa hh hn td nh) (nOf kd ag pa td h) i)))]) [39, 40] (by decide) hC_6).weaken (fun _ _ _ _ => trivial)
      refine wrVv (As := [.int (nI (((nOf kd ag pa td h) i).toNatClampNeg)), .int (nI 1)]) (rest := []) hx hb hml hown hg (c_X1_add l D cI cB aS (a 39) (a 40) 40 (tyF (cbF kd ag pa hh hn td nh) (nOf kd ag pa td h) i) (((nOf kd ag pa td h) i).toNatClampNeg) (nI 1) hDc_6 (by first | assumption | omega) (qv i (by omega)).1) gm_227 vf_X1_add ⟨Nat.le_of_ble_eq_true rfl, Nat.le_of_ble_eq_true rfl⟩ ⟨rfl, rfl⟩ ⟨Nat.zero_le _, Nat.zero_le _⟩ (RP.preV hK hP_5 (q0 := 0) (ci := 1) rfl rfl) rfl hl.1 rfl (Nat.le_of_ble_eq_true rfl) dX2_mostLeftBy_49 hS (inW_sub hD [39, 40] hC_6) (fun u_7 H1 locs hpo_7 hP1 hk1 hS => ?_)
      have hP : va_P D vwCl (XW cI a pl n st ik td nd nh bs ktd knd knh kbs pg kd ag pa bo dm dn hh hn kag kpa kbo kdm kdn khh khn wb ps (upd (tyF (cbF kd ag pa hh hn td nh) (nOf kd ag pa td h) i) (((nOf kd ag pa td h) i).toNatClampNeg) ((tyF (cbF kd ag pa hh hn td nh) (nOf kd ag pa td h) i) (((nOf kd ag pa td h) i).toNatClampNeg) + (nI 1)))) H1 := P_eq (wjoin (wc := [(a 39, .inr (1, [.ref (a 40)])), (a 40, .inl (cI, 40, .inl (tyF (cbF kd ag pa hh hn td nh) (nOf kd ag pa td h) i)))]) (w1 := [(a 39, .inr (1, [.ref (a 40)])), (a 40, .inl (cI, 40, .inl (upd (tyF (cbF kd ag pa hh hn td nh) (nOf kd ag pa td h) i) (((nOf kd ag pa td h) i).toNatClampNeg) ((tyF (cbF kd ag pa hh hn td nh) (nOf kd ag pa td h) i) (((nOf kd ag pa td h) i).toNatClampNeg) + (nI 1)))))]) hP hD [39, 40] hC_6 rfl hP1 hk1) XW_wsets_49
      have hD : va_D A (XW cI a pl n st ik td nd nh bs ktd knd knh kbs pg kd ag pa bo dm dn hh hn kag kpa kbo kdm kdn khh khn wb ps (upd (tyF (cbF kd ag pa hh hn td nh) (nOf kd ag pa td h) i) (((nOf kd ag pa td h) i).toNatClampNeg) ((tyF (cbF kd ag pa hh hn td nh) (nOf kd ag pa td h) i) (((nOf kd ag pa td h) i).toNatClampNeg) + (nI 1)))) := hD.addr (XW_addr.trans XW_addr.symm)
      clear hP1 hk1
      generalize H1 = H at hP hS ⊢
      have e_8 : upd (tyF (cbF kd ag pa hh hn td nh) (nOf kd ag pa td h) i) (((nOf kd ag pa td h) i).toNatClampNeg) ((tyF (cbF kd ag pa hh hn td nh) (nOf kd ag pa td h) i) (((nOf kd ag pa td h) i).toNatClampNeg) + (nI 1)) = tyF (cbF kd ag pa hh hn td nh) (nOf kd ag pa td h) (i + 1) := (ty_s (v := (nOf kd ag pa td h)) (bi_one.mp c_31))
      rw [e_8] at hP hD
      have hP : va_P D vwCl (XW cI a pl n st ik td nd nh bs ktd knd knh kbs pg kd ag pa bo dm dn hh hn kag kpa kbo kdm kdn khh khn wb ps (tyF (cbF kd ag pa hh hn td nh) (nOf kd ag pa td h) (i + 1))) H := hP
      have hD : va_D A (XW cI a pl n st ik td nd nh bs ktd knd knh kbs pg kd ag pa bo dm dn hh hn kag kpa kbo kdm kdn khh khn wb ps (tyF (cbF kd ag pa hh hn td nh) (nOf kd ag pa td h) (i + 1))) := hD
      refine lv_iload_n hx hb dX2_mostLeftBy_52 rfl (lv_at hl 3 rfl) ?_
      refine lv_aload_n hx hb dX2_mostLeftBy_53 rfl (lv_at hl 1 rfl) ?_
      refine va_get (D := D) (ci := 2) (v := .ref (a 39)) (C := RX2) (T := TX2) (N := 11) hx hb hg us_X2 hown hK.1 hP 0 XW_g0 rfl 10 (by decide) (hg _ gm_80) (fun _ h9 => h9) rfl dX2_mostLeftBy_54 ?_
      refine lv_iload hx hb dX2_mostLeftBy_57 (lv_at hl 0 rfl) ?_
      have hP_9 : va_P D vwCl [(a 39, .inr (1, [.ref (a 40)])), (a 40, .inl (cI, 40, .inl (tyF (cbF kd ag pa hh hn td nh) (nOf kd ag pa td h) (i + 1))))] _ := P_s2 hP XW_g39 XW_g40
      refine rdV (As := [.int (nI (((nOf kd ag pa td h) i).toNatClampNeg))]) (rest := [.int (nI (moF (cbF kd ag pa hh hn td nh) (nOf kd ag pa td h) i))]) hx hb hml hown hg (c_X1_at l D cI cB aS (a 39) (a 40) 40 (tyF (cbF kd ag pa hh hn td nh) (nOf kd ag pa td h) (i + 1)) (((nOf kd ag pa td h) i).toNatClampNeg) (by first | assumption | omega) (qv i (by omega)).1) gm_108 vf_X1_at ⟨Nat.le_of_ble_eq_true rfl, Nat.le_of_ble_eq_true rfl⟩ ⟨rfl, rfl⟩ ⟨Nat.zero_le _, Nat.zero_le _⟩ (RP.preV hK hP_9 (q0 := 0) (ci := 1) rfl rfl) rfl hl.1 rfl (Nat.le_of_ble_eq_true rfl) dX2_mostLeftBy_59 ?_
      rw [show (((tyF (cbF kd ag pa hh hn td nh) (nOf kd ag pa td h) (i + 1)) (((nOf kd ag pa td h) i).toNatClampNeg)) : Int32) = (nI (cn (woQ (cbF kd ag pa hh hn td nh) (nOf kd ag pa td h) i) (i + 1))) from ty_at qv (by omega)]
      refine va_mmax hx hb (hml.trans hl.1.symm) hown (hg _ gm_334) (hg _ gm_335) (hg _ gm_10) (hg _ gm_336) (Nat.le_of_ble_eq_true rfl) (Nat.le_of_ble_eq_true rfl) (Nat.zero_le _) (Nat.zero_le _) dX2_mostLeftBy_62 ?_
      rw [show ((if (nI (moF (cbF kd ag pa hh hn td nh) (nOf kd ag pa td h) i)) < (nI (cn (woQ (cbF kd ag pa hh hn td nh) (nOf kd ag pa td h) i) (i + 1))) then (nI (cn (woQ (cbF kd ag pa hh hn td nh) (nOf kd ag pa td h) i) (i + 1))) else (nI (moF (cbF kd ag pa hh hn td nh) (nOf kd ag pa td h) i))) : Int32) = (nI (moF (cbF kd ag pa hh hn td nh) (nOf kd ag pa td h) (i + 1))) from mo_s (bi_one.mp c_31) (by omega)]
      refine lv_istore_n (lv' := [(2, .int (nI (moF (cbF kd ag pa hh hn td nh) (nOf kd ag pa td h) (i + 1)))), (4, .int (nI (((nOf kd ag pa td h) i).toNatClampNeg))), (0, .ref (a 0)), (1, .int (nI h)), (3, .int (nI i))]) hx hb dX2_mostLeftBy_65 rfl hl (by decide) rfl (fun ls hl => ?_)
      refine lv_iinc (v := (nI (i + 1))) (lv' := [(3, .int (nI (i + 1))), (2, .int (nI (moF (cbF kd ag pa hh hn td nh) (nOf kd ag pa td h) (i + 1)))), (4, .int (nI (((nOf kd ag pa td h) i).toNatClampNeg))), (0, .ref (a 0)), (1, .int (nI h))]) hx hb dX2_mostLeftBy_66 hl (k := 4) rfl (nI_i1 _) (by decide) rfl (fun ls hl => ?_)
      refine lv_goto (tgt := 11) hx hb dX2_mostLeftBy_69 (by decide) ?_
      exact ih_11 () _ _ _ (by omega) (trivial) (lv_sub hl [3, 4, 1, 0] rfl) hP (hD.addr (XW_addr.trans XW_addr.symm)) hS
