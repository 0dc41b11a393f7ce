abbrev rm_X2_pay : Room := { frames := 1, cells := 0, slots := 0, locals := 21 }
theorem XW_set_1 {cI : ClassId} {a : Nat → Nat} {pl n st : Nat} {ik : Int32} {td nd nh : Nat} {bs : Int32} {ktd knd knh : Nat} {kbs : Int32} {pg kd ag pa bo dm dn hh hn kag kpa kbo kdm kdn khh khn wb ps ty : Nat → Int32} {z0 : Nat} : List.set (XW cI a pl n st ik td nd nh bs ktd knd knh kbs pg kd ag pa bo dm dn hh hn kag kpa kbo kdm kdn khh khn wb ps ty) 5 (a 5, .inr (0, List.set [.int (nI td), .int bs, .int (nI nd), .int (nI nh), .ref (a 6), .ref (a 7), .ref (a 8), .ref (a 9), .ref (a 10), .ref (a 11), .ref (a 12)] 2 (.int (nI z0)))) = XW cI a pl n st ik td z0 nh bs ktd knd knh kbs pg kd ag pa bo dm dn hh hn kag kpa kbo kdm kdn khh khn wb ps ty := rfl
set_option maxRecDepth 100000 in
set_option maxHeartbeats 4000000 in
theorem c_X2_pay (l : Launch) (D : va_G) (cI cB : ClassId) (aS : Nat) (a : Nat → Nat) (pl n st : Nat) (ik : Int32) (td nd nh : Nat) (bs : Int32) (ktd knd knh : Nat) (kbs : Int32) (pg kd ag pa bo dm dn hh hn kag kpa kbo kdm kdn khh khn wb ps ty : Nat → Int32)  (hD0 : va_D (fun _ => True) (XW cI a pl n st ik td nd nh bs ktd knd knh kbs pg kd ag pa bo dm dn hh hn kag kpa kbo kdm kdn khh khn wb ps ty)) (qnd : nd ≤ 6) : Met l yX2_pay (mw yX2_pay cX2_pay 3 (some .int)) rm_X2_pay (RP D cI cB aS (XW cI a pl n st ik td nd nh bs ktd knd knh kbs pg kd ag pa bo dm dn hh hn kag kpa kbo kdm kdn khh khn wb ps ty) [.ref (a 0)]) (wq mkI (XW cI a pl n st ik td nd nh bs ktd knd knh kbs pg kd ag pa bo dm dn hh hn kag kpa kbo kdm kdn khh khn wb ps ty) (fun (_ : Unit) => XW cI a pl n st ik td 0 nh bs ktd knd knh kbs pg kd ag pa bo dm dn hh hn kag kpa kbo kdm kdn khh khn wb ps ty) D (fun (r : Int32) (_ : Unit) => r = (sm dm nd))) 0 0 (inW (XW cI a pl n st ik td nd nh bs ktd knd knh kbs pg kd ag pa bo dm dn hh hn kag kpa kbo kdm kdn khh khn wb ps ty)) := by
  refine met_of (by decide) (Nat.le_of_ble_eq_true rfl) ?_
  intro p e s m below meth c ls hx hb hr hml hown hg hlocks hin hK hP hl
  have hown : s.vm.findClass RX2 = some m.cls := hown
  have hl : lv_has ls 3 [(0, .ref (a 0))] := hl
  have hD := hD0.here
  have hS0 : va_S (inW (XW cI a pl n st ik td nd nh bs ktd knd knh kbs pg kd ag pa bo dm dn hh hn kag kpa kbo kdm kdn khh khn wb ps ty)) s.heap s.heap [] := va_S.rf
  obtain ⟨H, hH⟩ : ∃ H, H = s.heap := ⟨_, rfl⟩
  have hS : va_S (inW (XW cI a pl n st ik td nd nh bs ktd knd knh kbs pg kd ag pa bo dm dn hh hn kag kpa kbo kdm kdn khh khn wb ps ty)) s.heap H [] := by rw [hH]; exact hS0
  clear hS0
  rw [← hH] at hP ⊢
  generalize hAe : inW (XW cI a pl n st ik td nd nh bs ktd knd knh kbs pg kd ag pa bo dm dn hh hn kag kpa kbo kdm kdn khh khn wb ps ty) = A at hD hS ⊢
  refine lv_iconst (v := (nI 0)) hx hb dX2_pay_0 (by decide) ?_
  refine lv_istore_n (lv' := [(1, .int (nI 0)), (0, .ref (a 0))]) hx hb dX2_pay_1 rfl hl (by decide) rfl (fun ls hl => ?_)
  refine lv_iconst (v := (nI 0)) hx hb dX2_pay_2 (by decide) ?_
  refine lv_istore_n (lv' := [(2, .int (nI 0)), (1, .int (nI 0)), (0, .ref (a 0))]) hx hb dX2_pay_3 rfl hl (by decide) rfl (fun ls hl => ?_)
  -- loop at 4
  refine loopW (nL := 3) (S := Unit) (B := nd) (I := fun i u => True) (lv := fun i u => [(0, .ref (a 0)), (1, .int (sm dm i)), (2, .int (nI i))]) (wf := fun i u => XW cI a pl n st ik td nd nh bs ktd knd knh kbs pg kd ag pa bo dm dn hh hn kag kpa kbo kdm kdn khh khn wb ps ty) 0 () (Nat.zero_le _) (trivial) (by show lv_has ls 3 [(0, .ref (a 0)), (1, .int (sm dm 0)), (2, .int (nI 0))]; exact lv_sub hl [2, 1, 0] rfl) hP (hD.addr (XW_addr.trans XW_addr.symm)) hS (fun i u ls H locs hj hI hl hP hD hS ih => ?_)
  have hP : va_P D vwCl (XW cI a pl n st ik td nd nh bs ktd knd knh kbs pg kd ag pa bo dm dn hh hn kag kpa kbo kdm kdn khh khn wb ps ty) H := hP
  have hD : va_D A (XW cI a pl n st ik td nd nh bs ktd knd knh kbs pg kd ag pa bo dm dn hh hn kag kpa kbo kdm kdn khh khn wb ps ty) := hD
  have hl : lv_has ls 3 [(0, .ref (a 0)), (1, .int (sm dm i)), (2, .int (nI i))] := hl
  have ih_4 := ih
  refine lv_iload_n hx hb dX2_pay_4 rfl (lv_at hl 2 rfl) ?_
  refine lv_aload_n hx hb dX2_pay_5 rfl (lv_at hl 0 rfl) ?_
  refine va_get (D := D) (ci := 2) (v := .ref (a 5)) (C := RX2) (T := TX2) (N := 11) hx hb hg us_X2 hown hK.1 hP 0 XW_g0 rfl 5 (by decide) (hg _ gm_71) (fun _ h9 => h9) rfl dX2_pay_6 ?_
  refine va_getN (D := D) (ci := 0) (v := .int (nI nd)) (C := RX0) (T := TX0) (N := 11) hx hb hg us_X0 hown hK.1 hP 5 XW_g5 rfl 2 (by decide) (nl_139 hK) (fun _ h9 => h9) rfl dX2_pay_9 ?_
  refine nv_icmp_ge (tgt := 35) hx hb dX2_pay_12 (by omega) (by omega) (by decide) (fun c_12 => ?_) (fun c_12 => ?_)
  · skip
    refine lv_aload_n hx hb dX2_pay_35 rfl (lv_at hl 0 rfl) ?_
    refine va_get (D := D) (ci := 2) (v := .ref (a 5)) (C := RX2) (T := TX2) (N := 11) hx hb hg us_X2 hown hK.1 hP 0 XW_g0 rfl 5 (by decide) (hg _ gm_71) (fun _ h9 => h9) rfl dX2_pay_36 ?_
    refine lv_iconst (v := (nI 0)) hx hb dX2_pay_39 (by decide) ?_
    refine va_putN (D := D) (ci := 0) (v := .int (nI 0)) (ty := .int) (C := RX0) (T := TX0) (N := 11) hx hb hg us_X0 tyX0 tyX0_ok nmX0 hown hK.1 hP hD hS 5 XW_g5 rfl 2 (by decide) (nl_139 hK) (fun _ h9 => h9) rfl (by decide +kernel) rfl rfl (Nat.le_of_ble_eq_true rfl) dX2_pay_40 (fun H locs hP hD hS => ?_)
    have hP : va_P D vwCl (XW cI a pl n st ik td 0 nh bs ktd knd knh kbs pg kd ag pa bo dm dn hh hn kag kpa kbo kdm kdn khh khn wb ps ty) H := P_eq hP XW_set_1
    have hD : va_D A (XW cI a pl n st ik td 0 nh bs ktd knd knh kbs pg kd ag pa bo dm dn hh hn kag kpa kbo kdm kdn khh khn wb ps ty) := D_eq hD XW_set_1
    refine lv_iload_n hx hb dX2_pay_43 rfl (lv_at hl 1 rfl) ?_
    subst hAe
    exact wr_i (w1 := fun (_ : Unit) => XW cI a pl n st ik td 0 nh bs ktd knd knh kbs pg kd ag pa bo dm dn hh hn kag kpa kbo kdm kdn khh khn wb ps ty) hx hb hr hlocks hS () hP dX2_pay_44 (by rw [show i = nd by omega])
  · skip
    refine lv_iload_n hx hb dX2_pay_15 rfl (lv_at hl 1 rfl) ?_
    refine lv_aload_n hx hb dX2_pay_16 rfl (lv_at hl 0 rfl) ?_
    refine va_get (D := D) (ci := 2) (v := .ref (a 5)) (C := RX2) (T := TX2) (N := 11) hx hb hg us_X2 hown hK.1 hP 0 XW_g0 rfl 5 (by decide) (hg _ gm_71) (fun _ h9 => h9) rfl dX2_pay_17 ?_
    refine va_getN (D := D) (ci := 0) (v := .ref (a 9)) (C := RX0) (T := TX0) (N := 11) hx hb hg us_X0 hown hK.1 hP 5 XW_g5 rfl 7 (by decide) (nl_142 hK) (fun _ h9 => h9) rfl dX2_pay_20 ?_
    refine lv_iload_n hx hb dX2_pay_23 rfl (lv_at hl 2 rfl) ?_
    have hP_1 : va_P D vwCl [(a 9, .inr (1, [.ref (a 16)])), (a 16, .inl (cI, 6, .inl dm))] _ := P_s2 hP XW_g9 XW_g16
    refine rdV (As := [.int (nI i)]) (rest := [.int (sm dm i)]) hx hb hml hown hg (c_X1_at l D cI cB aS (a 9) (a 16) 6 dm i (by first | assumption | omega) (by first | assumption | omega)) gm_95 vf_X1_at ⟨Nat.le_of_ble_eq_true rfl, Nat.le_of_ble_eq_true rfl⟩ ⟨rfl, rfl⟩ ⟨Nat.zero_le _, Nat.zero_le _⟩ (RP.preV hK hP_1 (q0 := 0) (ci := 1) rfl rfl) rfl hl.1 rfl (Nat.le_of_ble_eq_true rfl) dX2_pay_24 ?_
    refine lv_iadd hx hb dX2_pay_27 ?_
    refine lv_istore_n (lv' := [(1, .int ((sm dm i) + (dm i))), (0, .ref (a 0)), (2, .int (nI i))]) hx hb dX2_pay_28 rfl hl (by decide) rfl (fun ls hl => ?_)
    refine lv_iinc (v := (nI (i + 1))) (lv' := [(2, .int (nI (i + 1))), (1, .int ((sm dm i) + (dm i))), (0, .ref (a 0))]) hx hb dX2_pay_29 hl (k := 2) rfl (nI_i1 _) (by decide) rfl (fun ls hl => ?_)
    refine lv_goto (tgt := 4) hx hb dX2_pay_32 (by decide) ?_
    exact ih_4 () _ _ _ (by omega) (trivial) (by show lv_has ls 3 [(0, .ref (a 0)), (1, .int (sm dm (i + 1))), (2, .int (nI (i + 1)))]; rw [show (sm dm (i + 1)) = (sm dm i) + (dm i) from rfl]; exact lv_sub hl [2, 1, 0] rfl) hP (hD.addr (XW_addr.trans XW_addr.symm)) hS
abbrev rm_X2_letter : Room := { frames := 1, cells := 0, slots := 0, locals := 22 }
theorem XW_wsets_2 {cI : ClassId} {a : Nat → Nat} {pl n st : Nat} {ik : Int32} {td nd nh : Nat} {bs : Int32} {ktd knd knh : Nat} {kbs : Int32} {pg kd ag pa bo dm dn hh hn kag kpa kbo kdm kdn khh khn wb ps ty : Nat → Int32} {z0 : Nat → Int32} : wsets (XW cI a pl n st ik td nd nh bs ktd knd knh kbs pg kd ag pa bo dm dn hh hn kag kpa kbo kdm kdn khh khn wb ps ty) [1, 2] [(a 1, .inr (1, [.ref (a 2)])), (a 2, .inl (cI, 19, .inl z0))] = XW cI a pl n st ik td nd nh bs ktd knd knh kbs z0 kd ag pa bo dm dn hh hn kag kpa kbo kdm kdn khh khn wb ps ty := rfl
theorem XW_set_3 {cI : ClassId} {a : Nat → Nat} {pl n st : Nat} {ik : Int32} {td nd nh : Nat} {bs : Int32} {ktd knd knh : Nat} {kbs : Int32} {pg kd ag pa bo dm dn hh hn kag kpa kbo kdm kdn khh khn wb ps ty : Nat → Int32} {z0 : Nat} : List.set (XW cI a pl n st ik td nd nh bs ktd knd knh kbs pg kd ag pa bo dm dn hh hn kag kpa kbo kdm kdn khh khn wb ps ty) 0 (a 0, .inr (2, List.set [.ref (a 1), .int (nI pl), .int (nI n), .int (nI st), .ref (a 3), .ref (a 5), .ref (a 20), .int ik, .ref (a 35), .ref (a 37), .ref (a 39)] 1 (.int (nI z0)))) = XW cI a z0 n st ik td nd nh bs ktd knd knh kbs pg kd ag pa bo dm dn hh hn kag kpa kbo kdm kdn khh khn wb ps ty := rfl
set_option maxRecDepth 100000 in
set_option maxHeartbeats 4000000 in
theorem c_X2_letter (l : Launch) (D : va_G) (cI cB : ClassId) (aS : Nat) (a : Nat → Nat) (pl n st : Nat) (ik : Int32) (td nd nh : Nat) (bs : Int32) (ktd knd knh : Nat) (kbs : Int32) (pg kd ag pa bo dm dn hh hn kag kpa kbo kdm kdn khh khn wb ps ty : Nat → Int32) (x : Int32) (hD0 : va_D (fun _ => True) (XW cI a pl n st ik td nd nh bs ktd knd knh kbs pg kd ag pa bo dm dn hh hn kag kpa kbo kdm kdn khh khn wb ps ty)) (qpl : pl ≤ 19) : Met l yX2_letter (mw yX2_letter cX2_letter 2 (some .int)) rm_X2_letter (RP D cI cB aS (XW cI a pl n st ik td nd nh bs ktd knd knh kbs pg kd ag pa bo dm dn hh hn kag kpa kbo kdm kdn khh khn wb ps ty) [.ref (a 0), .int x]) (wq mkI (XW cI a pl n st ik td nd nh bs ktd knd knh kbs pg kd ag pa bo dm dn hh hn kag kpa kbo kdm kdn khh khn wb ps ty) (fun (u : (Nat → Int32) × Nat) => XW cI a u.2 n st ik td nd nh bs ktd knd knh kbs u.1 kd ag pa bo dm dn hh hn kag kpa kbo kdm kdn khh khn wb ps ty) D (fun (r : Int32) (u : (Nat → Int32) × Nat) => (r, u) = letF pg pl x)) 0 0 (inW (XW cI a pl n st ik td nd nh bs ktd knd knh kbs pg kd ag pa bo dm dn hh hn kag kpa kbo kdm kdn khh khn wb ps ty)) := by
  refine met_of (by decide) (Nat.le_of_ble_eq_true rfl) ?_
  intro p e s m below meth c ls hx hb hr hml hown hg hlocks hin hK hP hl
  have hown : s.vm.findClass RX2 = some m.cls := hown
  have hl : lv_has ls 2 [(0, .ref (a 0)), (1, .int x)] := hl
  have hD := hD0.here
  have hS0 : va_S (inW (XW cI a pl n st ik td nd nh bs ktd knd knh kbs pg kd ag pa bo dm dn hh hn kag kpa kbo kdm kdn khh khn wb ps ty)) s.heap s.heap [] := va_S.rf
  obtain ⟨H, hH⟩ : ∃ H, H = s.heap := ⟨_, rfl⟩
  have hS : va_S (inW (XW cI a pl n st ik td nd nh bs ktd knd knh kbs pg kd ag pa bo dm dn hh hn kag kpa kbo kdm kdn khh khn wb ps ty)) s.heap H [] := by rw [hH]; exact hS0
  clear hS0
  rw [← hH] at hP ⊢
  generalize hAe : inW (XW cI a pl n st ik td nd nh bs ktd knd knh kbs pg kd ag pa bo dm dn hh hn kag kpa kbo kdm kdn khh khn wb ps ty) = A at hD hS ⊢
  refine lv_iload_n hx hb dX2_letter_0 rfl (lv_at hl 1 rfl) ?_
  refine lv_bipush (v := (nI 32)) hx hb dX2_letter_1 (by decide) ?_
  refine lv_icmp_lt (tgt := 12) hx hb dX2_letter_3 (by decide) (fun c_3 => ?_) (fun c_3 => ?_)
  · skip
    refine lv_bipush (v := (-102)) hx hb dX2_letter_12 (by decide) ?_
    subst hAe
    exact wr_i (w1 := fun (u : (Nat → Int32) × Nat) => XW cI a u.2 n st ik td nd nh bs ktd knd knh kbs u.1 kd ag pa bo dm dn hh hn kag kpa kbo kdm kdn khh khn wb ps ty) hx hb hr hlocks hS (pg, pl) hP dX2_letter_14 ((if_neg (fun q => Int32.not_lt.mpr q.1 c_3)).symm)
  · skip
    refine lv_iload_n hx hb dX2_letter_6 rfl (lv_at hl 1 rfl) ?_
    refine lv_bipush (v := (nI 126)) hx hb dX2_letter_7 (by decide) ?_
    refine lv_icmp_le (tgt := 15) hx hb dX2_letter_9 (by decide) (fun c_9 => ?_) (fun c_9 => ?_)
    · skip
      refine lv_aload_n hx hb dX2_letter_15 rfl (lv_at hl 0 rfl) ?_
      refine va_get (D := D) (ci := 2) (v := .int (nI pl)) (C := RX2) (T := TX2) (N := 11) hx hb hg us_X2 hown hK.1 hP 0 XW_g0 rfl 1 (by decide) (hg _ gm_67) (fun _ h9 => h9) rfl dX2_letter_16 ?_
      refine lv_bipush (v := (nI 19)) hx hb dX2_letter_19 (by decide) ?_
      refine nv_icmp_lt (tgt := 27) hx hb dX2_letter_21 (by omega) (by omega) (by decide) (fun c_21 => ?_) (fun c_21 => ?_)
      · skip
        refine lv_aload_n hx hb dX2_letter_27 rfl (lv_at hl 0 rfl) ?_
        refine va_get (D := D) (ci := 2) (v := .ref (a 1)) (C := RX2) (T := TX2) (N := 11) hx hb hg us_X2 hown hK.1 hP 0 XW_g0 rfl 0 (by decide) (hg _ gm_66) (fun _ h9 => h9) rfl dX2_letter_28 ?_
        refine lv_aload_n hx hb dX2_letter_31 rfl (lv_at hl 0 rfl) ?_
        refine va_get (D := D) (ci := 2) (v := .int (nI pl)) (C := RX2) (T := TX2) (N := 11) hx hb hg us_X2 hown hK.1 hP 0 XW_g0 rfl 1 (by decide) (hg _ gm_67) (fun _ h9 => h9) rfl dX2_letter_32 ?_
        refine lv_iload_n hx hb dX2_letter_35 rfl (lv_at hl 1 rfl) ?_
        have hP_1 : va_P D vwCl [(a 1, .inr (1, [.ref (a 2)])), (a 2, .inl (cI, 19, .inl pg))] _ := P_s2 hP XW_g1 XW_g2
        have hC_2 : ([1, 2] : List Nat).map (fun q_ => (XW cI a pl n st ik td nd nh bs ktd knd knh kbs pg kd ag pa bo dm dn hh hn kag kpa kbo kdm kdn khh khn wb ps ty : va_W)[q_]?) = List.map some ([(a 1, .inr (1, [.ref (a 2)])), (a 2, .inl (cI, 19, .inl pg))] : va_W) := M_s2 XW_g1 XW_g2
        have hDc_2 : va_D (fun _ => True) [(a 1, .inr (1, [.ref (a 2)])), (a 2, .inl (cI, 19, .inl pg))] := (hD.sub (ws' := [(a 1, .inr (1, [.ref (a 2)])), (a 2, .inl (cI, 19, .inl pg))]) [1, 2] (by decide) hC_2).weaken (fun _ _ _ _ => trivial)
        refine wrVv (As := [.int (nI pl), .int x]) (rest := []) hx hb hml hown hg (c_X1_put l D cI cB aS (a 1) (a 2) 19 pg pl x hDc_2 (by first | assumption | omega) (by first | assumption | omega)) gm_137 vf_X1_put ⟨Nat.le_of_ble_eq_true rfl, Nat.le_of_ble_eq_true rfl⟩ ⟨rfl, rfl⟩ ⟨Nat.zero_le _, Nat.zero_le _⟩ (RP.preV hK hP_1 (q0 := 0) (ci := 1) rfl rfl) rfl hl.1 rfl (Nat.le_of_ble_eq_true rfl) dX2_letter_36 hS (inW_sub hD [1, 2] hC_2) (fun u_3 H1 locs hpo_3 hP1 hk1 hS => ?_)
        have hP : va_P D vwCl (XW cI a pl n st ik td nd nh bs ktd knd knh kbs (upd pg pl x) kd ag pa bo dm dn hh hn kag kpa kbo kdm kdn khh khn wb ps ty) H1 := P_eq (wjoin (wc := [(a 1, .inr (1, [.ref (a 2)])), (a 2, .inl (cI, 19, .inl pg))]) (w1 := [(a 1, .inr (1, [.ref (a 2)])), (a 2, .inl (cI, 19, .inl (upd pg pl x)))]) hP hD [1, 2] hC_2 rfl hP1 hk1) XW_wsets_2
        have hD : va_D A (XW cI a pl n st ik td nd nh bs ktd knd knh kbs (upd pg pl x) kd ag pa bo dm dn hh hn kag kpa kbo kdm kdn khh khn wb ps ty) := hD.addr (XW_addr.trans XW_addr.symm)
        clear hP1 hk1
        generalize H1 = H at hP hS ⊢
        refine lv_aload_n hx hb dX2_letter_39 rfl (lv_at hl 0 rfl) ?_
        refine lv_dup hx hb dX2_letter_40 rfl ?_
        refine va_get (D := D) (ci := 2) (v := .int (nI pl)) (C := RX2) (T := TX2) (N := 11) hx hb hg us_X2 hown hK.1 hP 0 XW_g0 rfl 1 (by decide) (hg _ gm_67) (fun _ h9 => h9) rfl dX2_letter_41 ?_
        refine lv_iconst (v := (nI 1)) hx hb dX2_letter_44 (by decide) ?_
        refine nv_iadd hx hb dX2_letter_45 ?_
        refine va_put (D := D) (ci := 2) (v := .int (nI (pl + 1))) (ty := .int) (C := RX2) (T := TX2) (N := 11) hx hb hg us_X2 tyX2 tyX2_ok nmX2 hown hK.1 hP hD hS 0 XW_g0 rfl 1 (by decide) (hg _ gm_67) (fun _ h9 => h9) rfl (by decide +kernel) rfl rfl (Nat.le_of_ble_eq_true rfl) dX2_letter_46 (fun H locs hP hD hS => ?_)
        have hP : va_P D vwCl (XW cI a (pl + 1) n st ik td nd nh bs ktd knd knh kbs (upd pg pl x) kd ag pa bo dm dn hh hn kag kpa kbo kdm kdn khh khn wb ps ty) H := P_eq hP XW_set_3
        have hD : va_D A (XW cI a (pl + 1) n st ik td nd nh bs ktd knd knh kbs (upd pg pl x) kd ag pa bo dm dn hh hn kag kpa kbo kdm kdn khh khn wb ps ty) := D_eq hD XW_set_3
        refine lv_aload_n hx hb dX2_letter_49 rfl (lv_at hl 0 rfl) ?_
        refine va_get (D := D) (ci := 2) (v := .int (nI (pl + 1))) (C := RX2) (T := TX2) (N := 11) hx hb hg us_X2 hown hK.1 hP 0 XW_g0 rfl 1 (by decide) (hg _ gm_67) (fun _ h9 => h9) rfl dX2_letter_50 ?_
        subst hAe
        exact wr_i (w1 := fun (u : (Nat → Int32) × Nat) => XW cI a u.2 n st ik td nd nh bs ktd knd knh kbs u.1 kd ag pa bo dm dn hh hn kag kpa kbo kdm kdn khh khn wb ps ty) hx hb hr hlocks hS (upd pg pl x, pl + 1) hP dX2_letter_53 (by unfold letF; rw [if_pos ⟨Int32.not_lt.mp c_3, c_9⟩, if_neg (by omega)])
      · skip
        refine lv_bipush (v := (-104)) hx hb dX2_letter_24 (by decide) ?_
        subst hAe
        exact wr_i (w1 := fun (u : (Nat → Int32) × Nat) => XW cI a u.2 n st ik td nd nh bs ktd knd knh kbs u.1 kd ag pa bo dm dn hh hn kag kpa kbo kdm kdn khh khn wb ps ty) hx hb hr hlocks hS (pg, pl) hP dX2_letter_26 (by unfold letF; rw [if_pos ⟨Int32.not_lt.mp c_3, c_9⟩, if_pos (by omega)])
    · skip
      refine lv_bipush (v := (-102)) hx hb dX2_letter_12 (by decide) ?_
      subst hAe
      exact wr_i (w1 := fun (u : (Nat → Int32) × Nat) => XW cI a u.2 n st ik td nd nh bs ktd knd knh kbs u.1 kd ag pa bo dm dn hh hn kag kpa kbo kdm kdn khh khn wb ps ty) hx hb hr hlocks hS (pg, pl) hP dX2_letter_14 ((if_neg (fun q => c_9 q.2)).symm)
abbrev rm_X2_birth : Room := { frames := 3, cells := 0, slots := 0, locals := 64 }
theorem XW_wsets_4 {cI : ClassId} {a : Nat → Nat} {pl n st : Nat} {ik : Int32} {td nd nh : Nat} {bs : Int32} {ktd knd knh : Nat} {kbs : Int32} {pg kd ag pa bo dm dn hh hn kag kpa kbo kdm kdn khh khn wb ps ty : Nat → Int32} {z0 : Nat → Int32} : wsets (XW cI a pl n st ik td nd nh bs ktd knd knh kbs pg kd ag pa bo dm dn hh hn kag kpa kbo kdm kdn khh khn wb ps ty) [0, 3, 4, 6, 13] [(a 0, .inr (2, [.ref (a 1), .int (nI pl), .int (nI n), .int (nI st), .ref (a 3), .ref (a 5), .ref (a 20), .int ik, .ref (a 35), .ref (a 37), .ref (a 39)])), (a 3, .inr (1, [.ref (a 4)])), (a 4, .inl (cI, 6, .inl kd)), (a 6, .inr (1, [.ref (a 13)])), (a 13, .inl (cI, 6, .inl z0))] = XW cI a pl n st ik td nd nh bs ktd knd knh kbs pg kd z0 pa bo dm dn hh hn kag kpa kbo kdm kdn khh khn wb ps ty := rfl
theorem XW_set_5 {cI : ClassId} {a : Nat → Nat} {pl n st : Nat} {ik : Int32} {td nd nh : Nat} {bs : Int32} {ktd knd knh : Nat} {kbs : Int32} {pg kd ag pa bo dm dn hh hn kag kpa kbo kdm kdn khh khn wb ps ty : Nat → Int32} {z0 : Int32} : List.set (XW cI a pl n st ik td nd nh bs ktd knd knh kbs pg kd ag pa bo dm dn hh hn kag kpa kbo kdm kdn khh khn wb ps ty) 5 (a 5, .inr (0, List.set [.int (nI td), .int bs, .int (nI nd), .int (nI nh), .ref (a 6), .ref (a 7), .ref (a 8), .ref (a 9), .ref (a 10), .ref (a 11), .ref (a 12)] 1 (.int z0))) = XW cI a pl n st ik td nd nh z0 ktd knd knh kbs pg kd ag pa bo dm dn hh hn kag kpa kbo kdm kdn khh khn wb ps ty := rfl
theorem vf_X1_add : vfacts RX1 yX1_add cX1_add 3 none 2 := ⟨⟨rfl, by decide +kernel, by decide +kernel, by decide +kernel⟩, gm_145, gm_146, gm_3, gm_147⟩
theorem XW_wsets_6 {cI : ClassId} {a : Nat → Nat} {pl n st : Nat} {ik : Int32} {td nd nh : Nat} {bs : Int32} {ktd knd knh : Nat} {kbs : Int32} {pg kd ag pa bo dm dn hh hn kag kpa kbo kdm kdn khh khn wb ps ty : Nat → Int32} {z0 : Nat → Int32} : wsets (XW cI a pl n st ik td nd nh bs ktd knd knh kbs pg kd ag pa bo dm dn hh hn kag kpa kbo kdm kdn khh khn wb ps ty) [8, 15] [(a 8, .inr (1, [.ref (a 15)])), (a 15, .inl (cI, 6, .inl z0))] = XW cI a pl n st ik td nd nh bs ktd knd knh kbs pg kd ag pa z0 dm dn hh hn kag kpa kbo kdm kdn khh khn wb ps ty := rfl
set_option maxRecDepth 100000 in
set_option maxHeartbeats 4000000 in
theorem c_X2_birth (l : Launch) (D : va_G) (cI cB : ClassId) (aS : Nat) (a : Nat → Nat) (pl n st : Nat) (ik : Int32) (td nd nh : Nat) (bs : Int32) (ktd knd knh : Nat) (kbs : Int32) (pg kd ag pa bo dm dn hh hn kag kpa kbo kdm kdn khh khn wb ps ty : Nat → Int32) (x : Int32) (hD0 : va_D (fun _ => True) (XW cI a pl n st ik td nd nh bs ktd knd knh kbs pg kd ag pa bo dm dn hh hn kag kpa kbo kdm kdn khh khn wb ps ty)) (hn6 : n ≤ 6) : Met l yX2_birth (mw yX2_birth cX2_birth 2 (some .int)) rm_X2_birth (RP D cI cB aS (XW cI a pl n st ik td nd nh bs ktd knd knh kbs pg kd ag pa bo dm dn hh hn kag kpa kbo kdm kdn khh khn wb ps ty) [.ref (a 0), .int x]) (wq mkI (XW cI a pl n st ik td nd nh bs ktd knd knh kbs pg kd ag pa bo dm dn hh hn kag kpa kbo kdm kdn khh khn wb ps ty) (fun (u : (Nat → Int32) × (Nat → Int32) × Int32) => XW cI a pl n st ik td nd nh u.2.2 ktd knd knh kbs pg kd u.1 pa u.2.1 dm dn hh hn kag kpa kbo kdm kdn khh khn wb ps ty) D (fun (r : Int32) (u : (Nat → Int32) × (Nat → Int32) × Int32) => (r, u) = birF n kd ag bo bs x)) 0 0 (inW (XW cI a pl n st ik td nd nh bs ktd knd knh kbs pg kd ag pa bo dm dn hh hn kag kpa kbo kdm kdn khh khn wb ps ty)) := by
  refine met_of (by decide) (Nat.le_of_ble_eq_true rfl) ?_
  intro p e s m below meth c ls hx hb hr hml hown hg hlocks hin hK hP hl
  have hown : s.vm.findClass RX2 = some m.cls := hown
  have hl : lv_has ls 2 [(0, .ref (a 0)), (1, .int x)] := hl
  have hD := hD0.here
  have hS0 : va_S (inW (XW cI a pl n st ik td nd nh bs ktd knd knh kbs pg kd ag pa bo dm dn hh hn kag kpa kbo kdm kdn khh khn wb ps ty)) s.heap s.heap [] := va_S.rf
  obtain ⟨H, hH⟩ : ∃ H, H = s.heap := ⟨_, rfl⟩
  have hS : va_S (inW (XW cI a pl n st ik td nd nh bs ktd knd knh kbs pg kd ag pa bo dm dn hh hn kag kpa kbo kdm kdn khh khn wb ps ty)) s.heap H [] := by rw [hH]; exact hS0
  clear hS0
  rw [← hH] at hP ⊢
  generalize hAe : inW (XW cI a pl n st ik td nd nh bs ktd knd knh kbs pg kd ag pa bo dm dn hh hn kag kpa kbo kdm kdn khh khn wb ps ty) = A at hD hS ⊢
  refine lv_aload_n hx hb dX2_birth_0 rfl (lv_at hl 0 rfl) ?_
  refine lv_iload_n hx hb dX2_birth_1 rfl (lv_at hl 1 rfl) ?_
  have hP_1 : va_P D vwCl [(a 0, .inr (2, [.ref (a 1), .int (nI pl), .int (nI n), .int (nI st), .ref (a 3), .ref (a 5), .ref (a 20), .int ik, .ref (a 35), .ref (a 37), .ref (a 39)]))] _ := P_s1 hP XW_g0
  refine rdV (As := [.int x]) (rest := []) hx hb hml hown hg (c_X2_isHouse l D cI cB aS (a 0) n ([.ref (a 1), .int (nI pl), .int (nI n), .int (nI st), .ref (a 3), .ref (a 5), .ref (a 20), .int ik, .ref (a 35), .ref (a 37), .ref (a 39)]) x rfl (by first | assumption | omega)) gm_92 vf_X2_isHouse ⟨Nat.le_of_ble_eq_true rfl, Nat.le_of_ble_eq_true rfl⟩ ⟨rfl, rfl⟩ ⟨Nat.zero_le _, Nat.zero_le _⟩ (RP.preV hK hP_1 (q0 := 0) (ci := 2) rfl rfl) rfl hl.1 rfl (Nat.le_of_ble_eq_true rfl) dX2_birth_2 ?_
  refine bv_if_ne (tgt := 11) hx hb dX2_birth_5 (by decide) (fun c_5 => ?_) (fun c_5 => ?_)
  · skip
    obtain ⟨j, qj, ex⟩ := hIn_of c_5 (by omega)
    subst ex
    refine lv_aload_n hx hb dX2_birth_11 rfl (lv_at hl 0 rfl) ?_
    refine va_get (D := D) (ci := 2) (v := .ref (a 3)) (C := RX2) (T := TX2) (N := 11) hx hb hg us_X2 hown hK.1 hP 0 XW_g0 rfl 4 (by decide) (hg _ gm_70) (fun _ h9 => h9) rfl dX2_birth_12 ?_
    refine lv_iload_n hx hb dX2_birth_15 rfl (lv_at hl 1 rfl) ?_
    have hP_2 : va_P D vwCl [(a 3, .inr (1, [.ref (a 4)])), (a 4, .inl (cI, 6, .inl kd))] _ := P_s2 hP XW_g3 XW_g4
    refine rdV (As := [.int (nI j)]) (rest := []) hx hb hml hown hg (c_X1_at l D cI cB aS (a 3) (a 4) 6 kd j (by first | assumption | omega) (by first | assumption | omega)) gm_95 vf_X1_at ⟨Nat.le_of_ble_eq_true rfl, Nat.le_of_ble_eq_true rfl⟩ ⟨rfl, rfl⟩ ⟨Nat.zero_le _, Nat.zero_le _⟩ (RP.preV hK hP_2 (q0 := 0) (ci := 1) rfl rfl) rfl hl.1 rfl (Nat.le_of_ble_eq_true rfl) dX2_birth_16 ?_
    refine lv_iconst (v := (nI 2)) hx hb dX2_birth_19 (by decide) ?_
    refine rdS (As := [.int (kd j), .int (nI 2)]) (rest := []) hx hb hml hown hg (c_X2_isA l D cI cB aS (kd j) (nI 2)) gm_127 sf_X2_isA ⟨Nat.le_of_ble_eq_true rfl, Nat.le_of_ble_eq_true rfl⟩ ⟨rfl, rfl⟩ ⟨Nat.zero_le _, Nat.zero_le _⟩ (RP.preS hK (fun k q h => by simp at h)) rfl hl.1 rfl (Nat.le_of_ble_eq_true rfl) dX2_birth_20 ?_
    rw [show ((bi (isAF (kd j) (nI 2))) : Int32) = (bi ((kd j = nI 2 ∨ kd j = nI 4))) from bi_c isA_2]
    refine bv_if_eq (tgt := 29) hx hb dX2_birth_23 (by decide) (fun c_23 => ?_) (fun c_23 => ?_)
    · skip
      refine lv_aload_n hx hb dX2_birth_29 rfl (lv_at hl 0 rfl) ?_
      refine lv_aload_n hx hb dX2_birth_30 rfl (lv_at hl 0 rfl) ?_
      refine va_get (D := D) (ci := 2) (v := .ref (a 5)) (C := RX2) (T := TX2) (N := 11) hx hb hg us_X2 hown hK.1 hP 0 XW_g0 rfl 5 (by decide) (hg _ gm_71) (fun _ h9 => h9) rfl dX2_birth_31 ?_
      refine va_getN (D := D) (ci := 0) (v := .ref (a 6)) (C := RX0) (T := TX0) (N := 11) hx hb hg us_X0 hown hK.1 hP 5 XW_g5 rfl 4 (by decide) (nl_76 hK) (fun _ h9 => h9) rfl dX2_birth_34 ?_
      refine lv_iload_n hx hb dX2_birth_37 rfl (lv_at hl 1 rfl) ?_
      have hP_3 : va_P D vwCl [(a 0, .inr (2, [.ref (a 1), .int (nI pl), .int (nI n), .int (nI st), .ref (a 3), .ref (a 5), .ref (a 20), .int ik, .ref (a 35), .ref (a 37), .ref (a 39)])), (a 3, .inr (1, [.ref (a 4)])), (a 4, .inl (cI, 6, .inl kd)), (a 6, .inr (1, [.ref (a 13)])), (a 13, .inl (cI, 6, .inl ag))] _ := P_s5 hP XW_g0 XW_g3 XW_g4 XW_g6 XW_g13
      have hC_4 : ([0, 3, 4, 6, 13] : List Nat).map (fun q_ => (XW cI a pl n st ik td nd nh bs ktd knd knh kbs pg kd ag pa bo dm dn hh hn kag kpa kbo kdm kdn khh khn wb ps ty : va_W)[q_]?) = List.map some ([(a 0, .inr (2, [.ref (a 1), .int (nI pl), .int (nI n), .int (nI st), .ref (a 3), .ref (a 5), .ref (a 20), .int ik, .ref (a 35), .ref (a 37), .ref (a 39)])), (a 3, .inr (1, [.ref (a 4)])), (a 4, .inl (cI, 6, .inl kd)), (a 6, .inr (1, [.ref (a 13)])), (a 13, .inl (cI, 6, .inl ag))] : va_W) := M_s5 XW_g0 XW_g3 XW_g4 XW_g6 XW_g13
      have hDc_4 : va_D (fun _ => True) [(a 0, .inr (2, [.ref (a 1), .int (nI pl), .int (nI n), .int (nI st), .ref (a 3), .ref (a 5), .ref (a 20), .int ik, .ref (a 35), .ref (a 37), .ref (a 39)])), (a 3, .inr (1, [.ref (a 4)])), (a 4, .inl (cI, 6, .inl kd)), (a 6, .inr (1, [.ref (a 13)])), (a 13, .inl (cI, 6, .inl ag))] := (hD.sub (ws' := [(a 0, .inr (2, [.ref (a 1), .int (nI pl), .int (nI n), .int (nI st), .ref (a 3), .ref (a 5), .ref (a 20), .int ik, .ref (a 35), .ref (a 37), .ref (a 39)])), (a 3, .inr (1, [.ref (a 4)])), (a 4, .inl (cI, 6, .inl kd)), (a 6, .inr (1, [.ref (a 13)])), (a 13, .inl (cI, 6, .inl ag))]) [0, 3, 4, 6, 13] (by decide) hC_4).weaken (fun _ _ _ _ => trivial)
      refine wrVv (As := [.ref (a 6), .int (nI j)]) (rest := []) hx hb hml hown hg (c_X2_bear l D cI cB aS (a 0) (a 3) (a 4) (a 6) (a 13) n ([.ref (a 1), .int (nI pl), .int (nI n), .int (nI st), .ref (a 3), .ref (a 5), .ref (a 20), .int ik, .ref (a 35), .ref (a 37), .ref (a 39)]) kd ag j hDc_4 rfl rfl (by first | assumption | omega) (by first | assumption | omega)) gm_134 vf_X2_bear ⟨Nat.le_of_ble_eq_true rfl, Nat.le_of_ble_eq_true rfl⟩ ⟨rfl, rfl⟩ ⟨Nat.zero_le _, Nat.zero_le _⟩ (RP.preV hK hP_3 (q0 := 0) (ci := 2) rfl rfl) rfl hl.1 rfl (Nat.le_of_ble_eq_true rfl) dX2_birth_38 hS (inW_sub hD [0, 3, 4, 6, 13] hC_4) (fun u_5 H1 locs hpo_5 hP1 hk1 hS => ?_)
      have hP : va_P D vwCl (XW cI a pl n st ik td nd nh bs ktd knd knh kbs pg kd (bearF n kd ag j) pa bo dm dn hh hn kag kpa kbo kdm kdn khh khn wb ps ty) H1 := P_eq (wjoin (wc := [(a 0, .inr (2, [.ref (a 1), .int (nI pl), .int (nI n), .int (nI st), .ref (a 3), .ref (a 5), .ref (a 20), .int ik, .ref (a 35), .ref (a 37), .ref (a 39)])), (a 3, .inr (1, [.ref (a 4)])), (a 4, .inl (cI, 6, .inl kd)), (a 6, .inr (1, [.ref (a 13)])), (a 13, .inl (cI, 6, .inl ag))]) (w1 := [(a 0, .inr (2, [.ref (a 1), .int (nI pl), .int (nI n), .int (nI st), .ref (a 3), .ref (a 5), .ref (a 20), .int ik, .ref (a 35), .ref (a 37), .ref (a 39)])), (a 3, .inr (1, [.ref (a 4)])), (a 4, .inl (cI, 6, .inl kd)), (a 6, .inr (1, [.ref (a 13)])), (a 13, .inl (cI, 6, .inl (bearF n kd ag j)))]) hP hD [0, 3, 4, 6, 13] hC_4 rfl hP1 hk1) XW_wsets_4
      have hD : va_D A (XW cI a pl n st ik td nd nh bs ktd knd knh kbs pg kd (bearF n kd ag j) pa bo dm dn hh hn kag kpa kbo kdm kdn khh khn wb ps ty) := hD.addr (XW_addr.trans XW_addr.symm)
      clear hP1 hk1
      generalize H1 = H at hP hS ⊢
      refine lv_aload_n hx hb dX2_birth_41 rfl (lv_at hl 0 rfl) ?_
      refine va_get (D := D) (ci := 2) (v := .ref (a 5)) (C := RX2) (T := TX2) (N := 11) hx hb hg us_X2 hown hK.1 hP 0 XW_g0 rfl 5 (by decide) (hg _ gm_71) (fun _ h9 => h9) rfl dX2_birth_42 ?_
      refine lv_dup hx hb dX2_birth_45 rfl ?_
      refine va_getN (D := D) (ci := 0) (v := .int bs) (C := RX0) (T := TX0) (N := 11) hx hb hg us_X0 hown hK.1 hP 5 XW_g5 rfl 1 (by decide) (nl_103 hK) (fun _ h9 => h9) rfl dX2_birth_46 ?_
      refine lv_iconst (v := (nI 1)) hx hb dX2_birth_49 (by decide) ?_
      refine lv_iadd hx hb dX2_birth_50 ?_
      refine va_putN (D := D) (ci := 0) (v := .int (bs + (nI 1))) (ty := .int) (C := RX0) (T := TX0) (N := 11) hx hb hg us_X0 tyX0 tyX0_ok nmX0 hown hK.1 hP hD hS 5 XW_g5 rfl 1 (by decide) (nl_103 hK) (fun _ h9 => h9) rfl (by decide +kernel) rfl rfl (Nat.le_of_ble_eq_true rfl) dX2_birth_51 (fun H locs hP hD hS => ?_)
      have hP : va_P D vwCl (XW cI a pl n st ik td nd nh (bs + (nI 1)) ktd knd knh kbs pg kd (bearF n kd ag j) pa bo dm dn hh hn kag kpa kbo kdm kdn khh khn wb ps ty) H := P_eq hP XW_set_5
      have hD : va_D A (XW cI a pl n st ik td nd nh (bs + (nI 1)) ktd knd knh kbs pg kd (bearF n kd ag j) pa bo dm dn hh hn kag kpa kbo kdm kdn khh khn wb ps ty) := D_eq hD XW_set_5
      refine lv_aload_n hx hb dX2_birth_54 rfl (lv_at hl 0 rfl) ?_
      refine va_get (D := D) (ci := 2) (v := .ref (a 5)) (C := RX2) (T := TX2) (N := 11) hx hb hg us_X2 hown hK.1 hP 0 XW_g0 rfl 5 (by decide) (hg _ gm_71) (fun _ h9 => h9) rfl dX2_birth_55 ?_
      refine va_getN (D := D) (ci := 0) (v := .ref (a 8)) (C := RX0) (T := TX0) (N := 11) hx hb hg us_X0 hown hK.1 hP 5 XW_g5 rfl 6 (by decide) (nl_86 hK) (fun _ h9 => h9) rfl dX2_birth_58 ?_
      refine lv_iload_n hx hb dX2_birth_61 rfl (lv_at hl 1 rfl) ?_
      refine lv_iconst (v := (nI 1)) hx hb dX2_birth_62 (by decide) ?_
      have hP_6 : va_P D vwCl [(a 8, .inr (1, [.ref (a 15)])), (a 15, .inl (cI, 6, .inl bo))] _ := P_s2 hP XW_g8 XW_g15
      have hC_7 : ([8, 15] : List Nat).map (fun q_ => (XW cI a pl n st ik td nd nh (bs + (nI 1)) ktd knd knh kbs pg kd (bearF n kd ag j) pa bo dm dn hh hn kag kpa kbo kdm kdn khh khn wb ps ty : va_W)[q_]?) = List.map some ([(a 8, .inr (1, [.ref (a 15)])), (a 15, .inl (cI, 6, .inl bo))] : va_W) := M_s2 XW_g8 XW_g15
      have hDc_7 : va_D (fun _ => True) [(a 8, .inr (1, [.ref (a 15)])), (a 15, .inl (cI, 6, .inl bo))] := (hD.sub (ws' := [(a 8, .inr (1, [.ref (a 15)])), (a 15, .inl (cI, 6, .inl bo))]) [8, 15] (by decide) hC_7).weaken (fun _ _ _ _ => trivial)
      refine wrVv (As := [.int (nI j), .int (nI 1)]) (rest := []) hx hb hml hown hg (c_X1_add l D cI cB aS (a 8) (a 15) 6 bo j (nI 1) hDc_7 (by first | assumption | omega) (by first | assumption | omega)) gm_144 vf_X1_add ⟨Nat.le_of_ble_eq_true rfl, Nat.le_of_ble_eq_true rfl⟩ ⟨rfl, rfl⟩ ⟨Nat.zero_le _, Nat.zero_le _⟩ (RP.preV hK hP_6 (q0 := 0) (ci := 1) rfl rfl) rfl hl.1 rfl (Nat.le_of_ble_eq_true rfl) dX2_birth_63 hS (inW_sub hD [8, 15] hC_7) (fun u_8 H1 locs hpo_8 hP1 hk1 hS => ?_)
      have hP : va_P D vwCl (XW cI a pl n st ik td nd nh (bs + (nI 1)) ktd knd knh kbs pg kd (bearF n kd ag j) pa (upd bo j (bo j + (nI 1))) dm dn hh hn kag kpa kbo kdm kdn khh khn wb ps ty) H1 := P_eq (wjoin (wc := [(a 8, .inr (1, [.ref (a 15)])), (a 15, .inl (cI, 6, .inl bo))]) (w1 := [(a 8, .inr (1, [.ref (a 15)])), (a 15, .inl (cI, 6, .inl (upd bo j (bo j + (nI 1)))))]) hP hD [8, 15] hC_7 rfl hP1 hk1) XW_wsets_6
      have hD : va_D A (XW cI a pl n st ik td nd nh (bs + (nI 1)) ktd knd knh kbs pg kd (bearF n kd ag j) pa (upd bo j (bo j + (nI 1))) dm dn hh hn kag kpa kbo kdm kdn khh khn wb ps ty) := hD.addr (XW_addr.trans XW_addr.symm)
      clear hP1 hk1
      generalize H1 = H at hP hS ⊢
      refine lv_aload_n hx hb dX2_birth_66 rfl (lv_at hl 0 rfl) ?_
      refine lv_iload_n hx hb dX2_birth_67 rfl (lv_at hl 1 rfl) ?_
      have hP_9 : va_P D vwCl [(a 0, .inr (2, [.ref (a 1), .int (nI pl), .int (nI n), .int (nI st), .ref (a 3), .ref (a 5), .ref (a 20), .int ik, .ref (a 35), .ref (a 37), .ref (a 39)])), (a 3, .inr (1, [.ref (a 4)])), (a 4, .inl (cI, 6, .inl kd))] _ := P_s3 hP XW_g0 XW_g3 XW_g4
      refine rdV (As := [.int (nI j)]) (rest := []) hx hb hml hown hg (c_X2_lendsACradle l D cI cB aS (a 0) (a 3) (a 4) n ([.ref (a 1), .int (nI pl), .int (nI n), .int (nI st), .ref (a 3), .ref (a 5), .ref (a 20), .int ik, .ref (a 35), .ref (a 37), .ref (a 39)]) kd j rfl rfl (by first | assumption | omega) (by first | assumption | omega)) gm_141 vf_X2_lendsACradle ⟨Nat.le_of_ble_eq_true rfl, Nat.le_of_ble_eq_true rfl⟩ ⟨rfl, rfl⟩ ⟨Nat.zero_le _, Nat.zero_le _⟩ (RP.preV hK hP_9 (q0 := 0) (ci := 2) rfl rfl) rfl hl.1 rfl (Nat.le_of_ble_eq_true rfl) dX2_birth_68 ?_
      refine bv_if_ne (tgt := 76) hx hb dX2_birth_71 (by decide) (fun c_71 => ?_) (fun c_71 => ?_)
      · skip
        refine lv_aload_n hx hb dX2_birth_76 rfl (lv_at hl 0 rfl) ?_
        refine va_get (D := D) (ci := 2) (v := .ref (a 5)) (C := RX2) (T := TX2) (N := 11) hx hb hg us_X2 hown hK.1 hP 0 XW_g0 rfl 5 (by decide) (hg _ gm_71) (fun _ h9 => h9) rfl dX2_birth_77 ?_
        refine va_getN (D := D) (ci := 0) (v := .ref (a 8)) (C := RX0) (T := TX0) (N := 11) hx hb hg us_X0 hown hK.1 hP 5 XW_g5 rfl 6 (by decide) (nl_86 hK) (fun _ h9 => h9) rfl dX2_birth_80 ?_
        refine lv_iload_n hx hb dX2_birth_83 rfl (lv_at hl 1 rfl) ?_
        refine lv_iconst (v := (nI 1)) hx hb dX2_birth_84 (by decide) ?_
        refine nv_iadd hx hb dX2_birth_85 ?_
        refine lv_iconst (v := (nI 1)) hx hb dX2_birth_86 (by decide) ?_
        have hP_10 : va_P D vwCl [(a 8, .inr (1, [.ref (a 15)])), (a 15, .inl (cI, 6, .inl (upd bo j (bo j + (nI 1)))))] _ := P_s2 hP XW_g8 XW_g15
        have hC_11 : ([8, 15] : List Nat).map (fun q_ => (XW cI a pl n st ik td nd nh (bs + (nI 1)) ktd knd knh kbs pg kd (bearF n kd ag j) pa (upd bo j (bo j + (nI 1))) dm dn hh hn kag kpa kbo kdm kdn khh khn wb ps ty : va_W)[q_]?) = List.map some ([(a 8, .inr (1, [.ref (a 15)])), (a 15, .inl (cI, 6, .inl (upd bo j (bo j + (nI 1)))))] : va_W) := M_s2 XW_g8 XW_g15
        have hDc_11 : va_D (fun _ => True) [(a 8, .inr (1, [.ref (a 15)])), (a 15, .inl (cI, 6, .inl (upd bo j (bo j + (nI 1)))))] := (hD.sub (ws' := [(a 8, .inr (1, [.ref (a 15)])), (a 15, .inl (cI, 6, .inl (upd bo j (bo j + (nI 1)))))]) [8, 15] (by decide) hC_11).weaken (fun _ _ _ _ => trivial)
        refine wrVv (As := [.int (nI (j + 1)), .int (nI 1)]) (rest := []) hx hb hml hown hg (c_X1_add l D cI cB aS (a 8) (a 15) 6 (upd bo j (bo j + (nI 1))) (j + 1) (nI 1) hDc_11 (by first | assumption | omega) (by have := c_71.1; omega)) gm_144 vf_X1_add ⟨Nat.le_of_ble_eq_true rfl, Nat.le_of_ble_eq_true rfl⟩ ⟨rfl, rfl⟩ ⟨Nat.zero_le _, Nat.zero_le _⟩ (RP.preV hK hP_10 (q0 := 0) (ci := 1) rfl rfl) rfl hl.1 rfl (Nat.le_of_ble_eq_true rfl) dX2_birth_87 hS (inW_sub hD [8, 15] hC_11) (fun u_12 H1 locs hpo_12 hP1 hk1 hS => ?_)
        have hP : va_P D vwCl (XW cI a pl n st ik td nd nh (bs + (nI 1)) ktd knd knh kbs pg kd (bearF n kd ag j) pa (upd (upd bo j (bo j + (nI 1))) (j + 1) ((upd bo j (bo j + (nI 1))) (j + 1) + (nI 1))) dm dn hh hn kag kpa kbo kdm kdn khh khn wb ps ty) H1 := P_eq (wjoin (wc := [(a 8, .inr (1, [.ref (a 15)])), (a 15, .inl (cI, 6, .inl (upd bo j (bo j + (nI 1)))))]) (w1 := [(a 8, .inr (1, [.ref (a 15)])), (a 15, .inl (cI, 6, .inl (upd (upd bo j (bo j + (nI 1))) (j + 1) ((upd bo j (bo j + (nI 1))) (j + 1) + (nI 1)))))]) hP hD [8, 15] hC_11 rfl hP1 hk1) XW_wsets_6
        have hD : va_D A (XW cI a pl n st ik td nd nh (bs + (nI 1)) ktd knd knh kbs pg kd (bearF n kd ag j) pa (upd (upd bo j (bo j + (nI 1))) (j + 1) ((upd bo j (bo j + (nI 1))) (j + 1) + (nI 1))) dm dn hh hn kag kpa kbo kdm kdn khh khn wb ps ty) := hD.addr (XW_addr.trans XW_addr.symm)
        clear hP1 hk1
        generalize H1 = H at hP hS ⊢
        refine lv_iconst (v := (nI 2)) hx hb dX2_birth_90 (by decide) ?_
        subst hAe
        exact wr_i (w1 := fun (u : (Nat → Int32) × (Nat → Int32) × Int32) => XW cI a pl n st ik td nd nh u.2.2 ktd knd knh kbs pg kd u.1 pa u.2.1 dm dn hh hn kag kpa kbo kdm kdn khh khn wb ps ty) hx hb hr hlocks hS (bearF n kd ag j, bornF n kd bo j, bs + nI 1) (by have e := born_t (bo := bo) c_71; rw [← e] at hP; exact hP) dX2_birth_91 (by rw [bir_ok qj hn6 c_23, if_pos c_71])
      · skip
        refine lv_iconst (v := (nI 1)) hx hb dX2_birth_74 (by decide) ?_
        subst hAe
        exact wr_i (w1 := fun (u : (Nat → Int32) × (Nat → Int32) × Int32) => XW cI a pl n st ik td nd nh u.2.2 ktd knd knh kbs pg kd u.1 pa u.2.1 dm dn hh hn kag kpa kbo kdm kdn khh khn wb ps ty) hx hb hr hlocks hS (bearF n kd ag j, bornF n kd bo j, bs + nI 1) (by have e := born_f (bo := bo) c_71; rw [← e] at hP; exact hP) dX2_birth_75 (by rw [bir_ok qj hn6 c_23, if_neg c_71])
    · skip
      refine lv_bipush (v := (-103)) hx hb dX2_birth_26 (by decide) ?_
      subst hAe
      exact wr_i (w1 := fun (u : (Nat → Int32) × (Nat → Int32) × Int32) => XW cI a pl n st ik td nd nh u.2.2 ktd knd knh kbs pg kd u.1 pa u.2.1 dm dn hh hn kag kpa kbo kdm kdn khh khn wb ps ty) hx hb hr hlocks hS (ag, bo, bs) hP dX2_birth_28 ((bir_2 qj hn6 (fun q => q c_23)).symm)
  · skip
    refine lv_bipush (v := (-101)) hx hb dX2_birth_8 (by decide) ?_
    subst hAe
    exact wr_i (w1 := fun (u : (Nat → Int32) × (Nat → Int32) × Int32) => XW cI a pl n st ik td nd nh u.2.2 ktd knd knh kbs pg kd u.1 pa u.2.1 dm dn hh hn kag kpa kbo kdm kdn khh khn wb ps ty) hx hb hr hlocks hS (ag, bo, bs) hP dX2_birth_10 ((bir_1 c_5).symm)
abbrev rm_X2_day : Room := { frames := 2, cells := 0, slots := 0, locals := 44 }
theorem vf_X2_growOlder : vfacts RX2 yX2_growOlder cX2_growOlder 3 none 1 := ⟨⟨rfl, by decide +kernel, by decide +kernel, by decide +kernel⟩, gm_155, gm_365, gm_2, gm_156⟩
theorem XW_set_7 {cI : ClassId} {a : Nat → Nat} {pl n st : Nat} {ik : Int32} {td nd nh : Nat} {bs : Int32} {ktd knd knh : Nat} {kbs : Int32} {pg kd ag pa bo dm dn hh hn kag kpa kbo kdm kdn khh khn wb ps ty : Nat → Int32} {z0 : Nat} : List.set (XW cI a pl n st ik td nd nh bs ktd knd knh kbs pg kd ag pa bo dm dn hh hn kag kpa kbo kdm kdn khh khn wb ps ty) 5 (a 5, .inr (0, List.set [.int (nI td), .int bs, .int (nI nd), .int (nI nh), .ref (a 6), .ref (a 7), .ref (a 8), .ref (a 9), .ref (a 10), .ref (a 11), .ref (a 12)] 0 (.int (nI z0)))) = XW cI a pl n st ik z0 nd nh bs ktd knd knh kbs pg kd ag pa bo dm dn hh hn kag kpa kbo kdm kdn khh khn wb ps ty := rfl
theorem XW_wsets_8 {cI : ClassId} {a : Nat → Nat} {pl n st : Nat} {ik : Int32} {td nd nh : Nat} {bs : Int32} {ktd knd knh : Nat} {kbs : Int32} {pg kd ag pa bo dm dn hh hn kag kpa kbo kdm kdn khh khn wb ps ty : Nat → Int32} {z0 : Nat → Int32} : wsets (XW cI a pl n st ik td nd nh bs ktd knd knh kbs pg kd ag pa bo dm dn hh hn kag kpa kbo kdm kdn khh khn wb ps ty) [7, 14] [(a 7, .inr (1, [.ref (a 14)])), (a 14, .inl (cI, 180, .inl z0))] = XW cI a pl n st ik td nd nh bs ktd knd knh kbs pg kd ag z0 bo dm dn hh hn kag kpa kbo kdm kdn khh khn wb ps ty := rfl
set_option maxRecDepth 100000 in
set_option maxHeartbeats 4000000 in
theorem c_X2_day (l : Launch) (D : va_G) (cI cB : ClassId) (aS : Nat) (a : Nat → Nat) (pl n st : Nat) (ik : Int32) (td nd nh : Nat) (bs : Int32) (ktd knd knh : Nat) (kbs : Int32) (pg kd ag pa bo dm dn hh hn kag kpa kbo kdm kdn khh khn wb ps ty : Nat → Int32)  (hD0 : va_D (fun _ => True) (XW cI a pl n st ik td nd nh bs ktd knd knh kbs pg kd ag pa bo dm dn hh hn kag kpa kbo kdm kdn khh khn wb ps ty)) (hn6 : n ≤ 6) (qt : td ≤ 30) : Met l yX2_day (mw yX2_day cX2_day 2 (some .int)) rm_X2_day (RP D cI cB aS (XW cI a pl n st ik td nd nh bs ktd knd knh kbs pg kd ag pa bo dm dn hh hn kag kpa kbo kdm kdn khh khn wb ps ty) [.ref (a 0)]) (wq mkI (XW cI a pl n st ik td nd nh bs ktd knd knh kbs pg kd ag pa bo dm dn hh hn kag kpa kbo kdm kdn khh khn wb ps ty) (fun (u : (Nat → Int32) × (Nat → Int32) × Nat) => XW cI a pl n st ik u.2.2 nd nh bs ktd knd knh kbs pg kd u.1 u.2.1 bo dm dn hh hn kag kpa kbo kdm kdn khh khn wb ps ty) D (fun (r : Int32) (u : (Nat → Int32) × (Nat → Int32) × Nat) => (r, u) = dayF n td kd ag pa)) 0 0 (inW (XW cI a pl n st ik td nd nh bs ktd knd knh kbs pg kd ag pa bo dm dn hh hn kag kpa kbo kdm kdn khh khn wb ps ty)) := by
  refine met_of (by decide) (Nat.le_of_ble_eq_true rfl) ?_
  intro p e s m below meth c ls hx hb hr hml hown hg hlocks hin hK hP hl
  have hown : s.vm.findClass RX2 = some m.cls := hown
  have hl : lv_has ls 2 [(0, .ref (a 0))] := hl
  have hD := hD0.here
  have hS0 : va_S (inW (XW cI a pl n st ik td nd nh bs ktd knd knh kbs pg kd ag pa bo dm dn hh hn kag kpa kbo kdm kdn khh khn wb ps ty)) s.heap s.heap [] := va_S.rf
  obtain ⟨H, hH⟩ : ∃ H, H = s.heap := ⟨_, rfl⟩
  have hS : va_S (inW (XW cI a pl n st ik td nd nh bs ktd knd knh kbs pg kd ag pa bo dm dn hh hn kag kpa kbo kdm kdn khh khn wb ps ty)) s.heap H [] := by rw [hH]; exact hS0
  clear hS0
  rw [← hH] at hP ⊢
  generalize hAe : inW (XW cI a pl n st ik td nd nh bs ktd knd knh kbs pg kd ag pa bo dm dn hh hn kag kpa kbo kdm kdn khh khn wb ps ty) = A at hD hS ⊢
  refine lv_aload_n hx hb dX2_day_0 rfl (lv_at hl 0 rfl) ?_
  refine va_get (D := D) (ci := 2) (v := .int (nI n)) (C := RX2) (T := TX2) (N := 11) hx hb hg us_X2 hown hK.1 hP 0 XW_g0 rfl 2 (by decide) (hg _ gm_68) (fun _ h9 => h9) rfl dX2_day_1 ?_
  refine nv_if_ne (tgt := 10) hx hb dX2_day_4 (by omega) (by decide) (fun c_4 => ?_) (fun c_4 => ?_)
  · skip
    refine lv_aload_n hx hb dX2_day_10 rfl (lv_at hl 0 rfl) ?_
    refine va_get (D := D) (ci := 2) (v := .ref (a 5)) (C := RX2) (T := TX2) (N := 11) hx hb hg us_X2 hown hK.1 hP 0 XW_g0 rfl 5 (by decide) (hg _ gm_71) (fun _ h9 => h9) rfl dX2_day_11 ?_
    refine va_getN (D := D) (ci := 0) (v := .int (nI td)) (C := RX0) (T := TX0) (N := 11) hx hb hg us_X0 hown hK.1 hP 5 XW_g5 rfl 0 (by decide) (nl_112 hK) (fun _ h9 => h9) rfl dX2_day_14 ?_
    refine lv_bipush (v := (nI 30)) hx hb dX2_day_17 (by decide) ?_
    refine nv_icmp_lt (tgt := 25) hx hb dX2_day_19 (by omega) (by omega) (by decide) (fun c_19 => ?_) (fun c_19 => ?_)
    · skip
      refine lv_iconst (v := (nI 0)) hx hb dX2_day_25 (by decide) ?_
      refine lv_istore_n (lv' := [(1, .int (nI 0)), (0, .ref (a 0))]) hx hb dX2_day_26 rfl hl (by decide) rfl (fun ls hl => ?_)
      -- loop at 27
      refine loopW (nL := 2) (S := Unit) (B := n) (I := fun i u => True) (lv := fun i u => [(0, .ref (a 0)), (1, .int (nI i))]) (wf := fun i u => XW cI a pl n st ik td nd nh bs ktd knd knh kbs pg kd ag (paF ag pa td i) bo dm dn hh hn kag kpa kbo kdm kdn khh khn wb ps ty) 0 () (Nat.zero_le _) (trivial) (lv_sub hl [1, 0] rfl) (by show va_P D vwCl (XW cI a pl n st ik td nd nh bs ktd knd knh kbs pg kd ag (paF ag pa td 0) bo dm dn hh hn kag kpa kbo kdm kdn khh khn wb ps ty) H; rw [pa_0]; exact hP) (hD.addr (XW_addr.trans XW_addr.symm)) hS (fun i u ls H locs hj hI hl hP hD hS ih => ?_)
      have hP : va_P D vwCl (XW cI a pl n st ik td nd nh bs ktd knd knh kbs pg kd ag (paF ag pa td i) bo dm dn hh hn kag kpa kbo kdm kdn khh khn wb ps ty) H := hP
      have hD : va_D A (XW cI a pl n st ik td nd nh bs ktd knd knh kbs pg kd ag (paF ag pa td i) bo dm dn hh hn kag kpa kbo kdm kdn khh khn wb ps ty) := hD
      have hl : lv_has ls 2 [(0, .ref (a 0)), (1, .int (nI i))] := hl
      have ih_27 := ih
      refine lv_iload_n hx hb dX2_day_27 rfl (lv_at hl 1 rfl) ?_
      refine lv_aload_n hx hb dX2_day_28 rfl (lv_at hl 0 rfl) ?_
      refine va_get (D := D) (ci := 2) (v := .int (nI n)) (C := RX2) (T := TX2) (N := 11) hx hb hg us_X2 hown hK.1 hP 0 XW_g0 rfl 2 (by decide) (hg _ gm_68) (fun _ h9 => h9) rfl dX2_day_29 ?_
      refine nv_icmp_ge (tgt := 73) hx hb dX2_day_32 (by omega) (by omega) (by decide) (fun c_32 => ?_) (fun c_32 => ?_)
      · skip
        refine lv_aload_n hx hb dX2_day_73 rfl (lv_at hl 0 rfl) ?_
        refine lv_aload_n hx hb dX2_day_74 rfl (lv_at hl 0 rfl) ?_
        refine va_get (D := D) (ci := 2) (v := .ref (a 5)) (C := RX2) (T := TX2) (N := 11) hx hb hg us_X2 hown hK.1 hP 0 XW_g0 rfl 5 (by decide) (hg _ gm_71) (fun _ h9 => h9) rfl dX2_day_75 ?_
        refine va_getN (D := D) (ci := 0) (v := .ref (a 6)) (C := RX0) (T := TX0) (N := 11) hx hb hg us_X0 hown hK.1 hP 5 XW_g5 rfl 4 (by decide) (nl_76 hK) (fun _ h9 => h9) rfl dX2_day_78 ?_
        have hP_1 : va_P D vwCl [(a 0, .inr (2, [.ref (a 1), .int (nI pl), .int (nI n), .int (nI st), .ref (a 3), .ref (a 5), .ref (a 20), .int ik, .ref (a 35), .ref (a 37), .ref (a 39)])), (a 3, .inr (1, [.ref (a 4)])), (a 4, .inl (cI, 6, .inl kd)), (a 6, .inr (1, [.ref (a 13)])), (a 13, .inl (cI, 6, .inl ag))] _ := P_s5 hP XW_g0 XW_g3 XW_g4 XW_g6 XW_g13
        have hC_2 : ([0, 3, 4, 6, 13] : List Nat).map (fun q_ => (XW cI a pl n st ik td nd nh bs ktd knd knh kbs pg kd ag (paF ag pa td i) bo dm dn hh hn kag kpa kbo kdm kdn khh khn wb ps ty : va_W)[q_]?) = List.map some ([(a 0, .inr (2, [.ref (a 1), .int (nI pl), .int (nI n), .int (nI st), .ref (a 3), .ref (a 5), .ref (a 20), .int ik, .ref (a 35), .ref (a 37), .ref (a 39)])), (a 3, .inr (1, [.ref (a 4)])), (a 4, .inl (cI, 6, .inl kd)), (a 6, .inr (1, [.ref (a 13)])), (a 13, .inl (cI, 6, .inl ag))] : va_W) := M_s5 XW_g0 XW_g3 XW_g4 XW_g6 XW_g13
        have hDc_2 : va_D (fun _ => True) [(a 0, .inr (2, [.ref (a 1), .int (nI pl), .int (nI n), .int (nI st), .ref (a 3), .ref (a 5), .ref (a 20), .int ik, .ref (a 35), .ref (a 37), .ref (a 39)])), (a 3, .inr (1, [.ref (a 4)])), (a 4, .inl (cI, 6, .inl kd)), (a 6, .inr (1, [.ref (a 13)])), (a 13, .inl (cI, 6, .inl ag))] := (hD.sub (ws' := [(a 0, .inr (2, [.ref (a 1), .int (nI pl), .int (nI n), .int (nI st), .ref (a 3), .ref (a 5), .ref (a 20), .int ik, .ref (a 35), .ref (a 37), .ref (a 39)])), (a 3, .inr (1, [.ref (a 4)])), (a 4, .inl (cI, 6, .inl kd)), (a 6, .inr (1, [.ref (a 13)])), (a 13, .inl (cI, 6, .inl ag))]) [0, 3, 4, 6, 13] (by decide) hC_2).weaken (fun _ _ _ _ => trivial)
        refine wrVv (As := [.ref (a 6)]) (rest := []) hx hb hml hown hg (c_X2_growOlder l D cI cB aS (a 0) (a 3) (a 4) (a 6) (a 13) n ([.ref (a 1), .int (nI pl), .int (nI n), .int (nI st), .ref (a 3), .ref (a 5), .ref (a 20), .int ik, .ref (a 35), .ref (a 37), .ref (a 39)]) kd ag hDc_2 rfl rfl (by first | assumption | omega)) gm_154 vf_X2_growOlder ⟨Nat.le_of_ble_eq_true rfl, Nat.le_of_ble_eq_true rfl⟩ ⟨rfl, rfl⟩ ⟨Nat.zero_le _, Nat.zero_le _⟩ (RP.preV hK hP_1 (q0 := 0) (ci := 2) rfl rfl) rfl hl.1 rfl (Nat.le_of_ble_eq_true rfl) dX2_day_81 hS (inW_sub hD [0, 3, 4, 6, 13] hC_2) (fun u_3 H1 locs hpo_3 hP1 hk1 hS => ?_)
        have hP : va_P D vwCl (XW cI a pl n st ik td nd nh bs ktd knd knh kbs pg kd (groF kd ag n) (paF ag pa td i) bo dm dn hh hn kag kpa kbo kdm kdn khh khn wb ps ty) H1 := P_eq (wjoin (wc := [(a 0, .inr (2, [.ref (a 1), .int (nI pl), .int (nI n), .int (nI st), .ref (a 3), .ref (a 5), .ref (a 20), .int ik, .ref (a 35), .ref (a 37), .ref (a 39)])), (a 3, .inr (1, [.ref (a 4)])), (a 4, .inl (cI, 6, .inl kd)), (a 6, .inr (1, [.ref (a 13)])), (a 13, .inl (cI, 6, .inl ag))]) (w1 := [(a 0, .inr (2, [.ref (a 1), .int (nI pl), .int (nI n), .int (nI st), .ref (a 3), .ref (a 5), .ref (a 20), .int ik, .ref (a 35), .ref (a 37), .ref (a 39)])), (a 3, .inr (1, [.ref (a 4)])), (a 4, .inl (cI, 6, .inl kd)), (a 6, .inr (1, [.ref (a 13)])), (a 13, .inl (cI, 6, .inl (groF kd ag n)))]) hP hD [0, 3, 4, 6, 13] hC_2 rfl hP1 hk1) XW_wsets_4
        have hD : va_D A (XW cI a pl n st ik td nd nh bs ktd knd knh kbs pg kd (groF kd ag n) (paF ag pa td i) bo dm dn hh hn kag kpa kbo kdm kdn khh khn wb ps ty) := hD.addr (XW_addr.trans XW_addr.symm)
        clear hP1 hk1
        generalize H1 = H at hP hS ⊢
        refine lv_aload_n hx hb dX2_day_84 rfl (lv_at hl 0 rfl) ?_
        refine va_get (D := D) (ci := 2) (v := .ref (a 5)) (C := RX2) (T := TX2) (N := 11) hx hb hg us_X2 hown hK.1 hP 0 XW_g0 rfl 5 (by decide) (hg _ gm_71) (fun _ h9 => h9) rfl dX2_day_85 ?_
        refine lv_dup hx hb dX2_day_88 rfl ?_
        refine va_getN (D := D) (ci := 0) (v := .int (nI td)) (C := RX0) (T := TX0) (N := 11) hx hb hg us_X0 hown hK.1 hP 5 XW_g5 rfl 0 (by decide) (nl_112 hK) (fun _ h9 => h9) rfl dX2_day_89 ?_
        refine lv_iconst (v := (nI 1)) hx hb dX2_day_92 (by decide) ?_
        refine nv_iadd hx hb dX2_day_93 ?_
        refine va_putN (D := D) (ci := 0) (v := .int (nI (td + 1))) (ty := .int) (C := RX0) (T := TX0) (N := 11) hx hb hg us_X0 tyX0 tyX0_ok nmX0 hown hK.1 hP hD hS 5 XW_g5 rfl 0 (by decide) (nl_112 hK) (fun _ h9 => h9) rfl (by decide +kernel) rfl rfl (Nat.le_of_ble_eq_true rfl) dX2_day_94 (fun H locs hP hD hS => ?_)
        have hP : va_P D vwCl (XW cI a pl n st ik (td + 1) nd nh bs ktd knd knh kbs pg kd (groF kd ag n) (paF ag pa td i) bo dm dn hh hn kag kpa kbo kdm kdn khh khn wb ps ty) H := P_eq hP XW_set_7
        have hD : va_D A (XW cI a pl n st ik (td + 1) nd nh bs ktd knd knh kbs pg kd (groF kd ag n) (paF ag pa td i) bo dm dn hh hn kag kpa kbo kdm kdn khh khn wb ps ty) := D_eq hD XW_set_7
        refine lv_aload_n hx hb dX2_day_97 rfl (lv_at hl 0 rfl) ?_
        refine va_get (D := D) (ci := 2) (v := .ref (a 5)) (C := RX2) (T := TX2) (N := 11) hx hb hg us_X2 hown hK.1 hP 0 XW_g0 rfl 5 (by decide) (hg _ gm_71) (fun _ h9 => h9) rfl dX2_day_98 ?_
        refine va_getN (D := D) (ci := 0) (v := .int (nI (td + 1))) (C := RX0) (T := TX0) (N := 11) hx hb hg us_X0 hown hK.1 hP 5 XW_g5 rfl 0 (by decide) (nl_112 hK) (fun _ h9 => h9) rfl dX2_day_101 ?_
        subst hAe
        exact wr_i (w1 := fun (u : (Nat → Int32) × (Nat → Int32) × Nat) => XW cI a pl n st ik u.2.2 nd nh bs ktd knd knh kbs pg kd u.1 u.2.1 bo dm dn hh hn kag kpa kbo kdm kdn khh khn wb ps ty) hx hb hr hlocks hS (groF kd ag n, paF ag pa td n, td + 1) (by rw [show i = n by omega] at hP; exact hP) dX2_day_104 (by unfold dayF; rw [if_neg c_4, if_neg (by omega)])
      · skip
        refine lv_aload_n hx hb dX2_day_35 rfl (lv_at hl 0 rfl) ?_
        refine va_get (D := D) (ci := 2) (v := .ref (a 5)) (C := RX2) (T := TX2) (N := 11) hx hb hg us_X2 hown hK.1 hP 0 XW_g0 rfl 5 (by decide) (hg _ gm_71) (fun _ h9 => h9) rfl dX2_day_36 ?_
        refine va_getN (D := D) (ci := 0) (v := .ref (a 7)) (C := RX0) (T := TX0) (N := 11) hx hb hg us_X0 hown hK.1 hP 5 XW_g5 rfl 5 (by decide) (nl_115 hK) (fun _ h9 => h9) rfl dX2_day_39 ?_
        refine lv_iload_n hx hb dX2_day_42 rfl (lv_at hl 1 rfl) ?_
        refine lv_aload_n hx hb dX2_day_43 rfl (lv_at hl 0 rfl) ?_
        refine va_get (D := D) (ci := 2) (v := .ref (a 5)) (C := RX2) (T := TX2) (N := 11) hx hb hg us_X2 hown hK.1 hP 0 XW_g0 rfl 5 (by decide) (hg _ gm_71) (fun _ h9 => h9) rfl dX2_day_44 ?_
        refine va_getN (D := D) (ci := 0) (v := .int (nI td)) (C := RX0) (T := TX0) (N := 11) hx hb hg us_X0 hown hK.1 hP 5 XW_g5 rfl 0 (by decide) (nl_112 hK) (fun _ h9 => h9) rfl dX2_day_47 ?_
        refine rdS (As := [.int (nI i), .int (nI td)]) (rest := [.ref (a 7)]) hx hb hml hown hg (c_X2_cellOf l D cI cB aS i td) gm_117 sf_X2_cellOf ⟨Nat.le_of_ble_eq_true rfl, Nat.le_of_ble_eq_true rfl⟩ ⟨rfl, rfl⟩ ⟨Nat.zero_le _, Nat.zero_le _⟩ (RP.preS hK (fun k q h => by simp at h)) rfl hl.1 rfl (Nat.le_of_ble_eq_true rfl) dX2_day_50 ?_
        refine lv_aload_n hx hb dX2_day_53 rfl (lv_at hl 0 rfl) ?_
        refine va_get (D := D) (ci := 2) (v := .ref (a 5)) (C := RX2) (T := TX2) (N := 11) hx hb hg us_X2 hown hK.1 hP 0 XW_g0 rfl 5 (by decide) (hg _ gm_71) (fun _ h9 => h9) rfl dX2_day_54 ?_
        refine va_getN (D := D) (ci := 0) (v := .ref (a 6)) (C := RX0) (T := TX0) (N := 11) hx hb hg us_X0 hown hK.1 hP 5 XW_g5 rfl 4 (by decide) (nl_76 hK) (fun _ h9 => h9) rfl dX2_day_57 ?_
        refine lv_iload_n hx hb dX2_day_60 rfl (lv_at hl 1 rfl) ?_
        have hP_4 : va_P D vwCl [(a 6, .inr (1, [.ref (a 13)])), (a 13, .inl (cI, 6, .inl ag))] _ := P_s2 hP XW_g6 XW_g13
        refine rdV (As := [.int (nI i)]) (rest := [.int (nI (td * 6 + i)), .ref (a 7)]) hx hb hml hown hg (c_X1_at l D cI cB aS (a 6) (a 13) 6 ag i (by first | assumption | omega) (by first | assumption | omega)) gm_95 vf_X1_at ⟨Nat.le_of_ble_eq_true rfl, Nat.le_of_ble_eq_true rfl⟩ ⟨rfl, rfl⟩ ⟨Nat.zero_le _, Nat.zero_le _⟩ (RP.preV hK hP_4 (q0 := 0) (ci := 1) rfl rfl) rfl hl.1 rfl (Nat.le_of_ble_eq_true rfl) dX2_day_61 ?_
        have hP_5 : va_P D vwCl [(a 7, .inr (1, [.ref (a 14)])), (a 14, .inl (cI, 180, .inl (paF ag pa td i)))] _ := P_s2 hP XW_g7 XW_g14
        have hC_6 : ([7, 14] : List Nat).map (fun q_ => (XW cI a pl n st ik td nd nh bs ktd knd knh kbs pg kd ag (paF ag pa td i) bo dm dn hh hn kag kpa kbo kdm kdn khh khn wb ps ty : va_W)[q_]?) = List.map some ([(a 7, .inr (1, [.ref (a 14)])), (a 14, .inl (cI, 180, .inl (paF ag pa td i)))] : va_W) := M_s2 XW_g7 XW_g14
        have hDc_6 : va_D (fun _ => True) [(a 7, .inr (1, [.ref (a 14)])), (a 14, .inl (cI, 180, .inl (paF ag pa td i)))] := (hD.sub (ws' := [(a 7, .inr (1, [.ref (a 14)])), (a 14, .inl (cI, 180, .inl (paF ag pa td i)))]) [7, 14] (by decide) hC_6).weaken (fun _ _ _ _ => trivial)
        refine wrVv (As := [.int (nI (td * 6 + i)), .int (ag i)]) (rest := []) hx hb hml hown hg (c_X1_put l D cI cB aS (a 7) (a 14) 180 (paF ag pa td i) (td * 6 + i) (ag i) hDc_6 (by first | assumption | omega) (by first | assumption | omega)) gm_137 vf_X1_put ⟨Nat.le_of_ble_eq_true rfl, Nat.le_of_ble_eq_true rfl⟩ ⟨rfl, rfl⟩ ⟨Nat.zero_le _, Nat.zero_le _⟩ (RP.preV hK hP_5 (q0 := 0) (ci := 1) rfl rfl) rfl hl.1 rfl (Nat.le_of_ble_eq_true rfl) dX2_day_64 hS (inW_sub hD [7, 14] hC_6) (fun u_7 H1 locs hpo_7 hP1 hk1 hS => ?_)
        have hP : va_P D vwCl (XW cI a pl n st ik td nd nh bs ktd knd knh kbs pg kd ag (upd (paF ag pa td i) (td * 6 + i) (ag i)) bo dm dn hh hn kag kpa kbo kdm kdn khh khn wb ps ty) H1 := P_eq (wjoin (wc := [(a 7, .inr (1, [.ref (a 14)])), (a 14, .inl (cI, 180, .inl (paF ag pa td i)))]) (w1 := [(a 7, .inr (1, [.ref (a 14)])), (a 14, .inl (cI, 180, .inl (upd (paF ag pa td i) (td * 6 + i) (ag i))))]) hP hD [7, 14] hC_6 rfl hP1 hk1) XW_wsets_8
        have hD : va_D A (XW cI a pl n st ik td nd nh bs ktd knd knh kbs pg kd ag (upd (paF ag pa td i) (td * 6 + i) (ag i)) bo dm dn hh hn kag kpa kbo kdm kdn khh khn wb ps ty) := hD.addr (XW_addr.trans XW_addr.symm)
        clear hP1 hk1
        generalize H1 = H at hP hS ⊢
        have e_8 : upd (paF ag pa td i) (td * 6 + i) (ag i) = paF ag pa td (i + 1) := pa_s (by omega)
        rw [e_8] at hP hD
        have hP : va_P D vwCl (XW cI a pl n st ik td nd nh bs ktd knd knh kbs pg kd ag (paF ag pa td (i + 1)) bo dm dn hh hn kag kpa kbo kdm kdn khh khn wb ps ty) H := hP
        have hD : va_D A (XW cI a pl n st ik td nd nh bs ktd knd knh kbs pg kd ag (paF ag pa td (i + 1)) bo dm dn hh hn kag kpa kbo kdm kdn khh khn wb ps ty) := hD
        refine lv_iinc (v := (nI (i + 1))) (lv' := [(1, .int (nI (i + 1))), (0, .ref (a 0))]) hx hb dX2_day_67 hl (k := 1) rfl (nI_i1 _) (by decide) rfl (fun ls hl => ?_)
        refine lv_goto (tgt := 27) hx hb dX2_day_70 (by decide) ?_
        exact ih_27 () _ _ _ (by omega) (trivial) (lv_sub hl [1, 0] rfl) hP (hD.addr (XW_addr.trans XW_addr.symm)) hS
    · skip
      refine lv_bipush (v := (-104)) hx hb dX2_day_22 (by decide) ?_
      subst hAe
      exact wr_i (w1 := fun (u : (Nat → Int32) × (Nat → Int32) × Nat) => XW cI a pl n st ik u.2.2 nd nh bs ktd knd knh kbs pg kd u.1 u.2.1 bo dm dn hh hn kag kpa kbo kdm kdn khh khn wb ps ty) hx hb hr hlocks hS (ag, pa, td) hP dX2_day_24 (by unfold dayF; rw [if_neg c_4, if_pos (by omega)])
  · skip
    refine lv_bipush (v := (-103)) hx hb dX2_day_7 (by decide) ?_
    subst hAe
    exact wr_i (w1 := fun (u : (Nat → Int32) × (Nat → Int32) × Nat) => XW cI a pl n st ik u.2.2 nd nh bs ktd knd knh kbs pg kd u.1 u.2.1 bo dm dn hh hn kag kpa kbo kdm kdn khh khn wb ps ty) hx hb hr hlocks hS (ag, pa, td) hP dX2_day_9 ((if_pos c_4).symm)
abbrev rm_X2_debt : Room := { frames := 1, cells := 0, slots := 0, locals := 22 }
theorem XW_wsets_9 {cI : ClassId} {a : Nat → Nat} {pl n st : Nat} {ik : Int32} {td nd nh : Nat} {bs : Int32} {ktd knd knh : Nat} {kbs : Int32} {pg kd ag pa bo dm dn hh hn kag kpa kbo kdm kdn khh khn wb ps ty : Nat → Int32} {z0 : Nat → Int32} : wsets (XW cI a pl n st ik td nd nh bs ktd knd knh kbs pg kd ag pa bo dm dn hh hn kag kpa kbo kdm kdn khh khn wb ps ty) [9, 16] [(a 9, .inr (1, [.ref (a 16)])), (a 16, .inl (cI, 6, .inl z0))] = XW cI a pl n st ik td nd nh bs ktd knd knh kbs pg kd ag pa bo z0 dn hh hn kag kpa kbo kdm kdn khh khn wb ps ty := rfl
theorem XW_wsets_10 {cI : ClassId} {a : Nat → Nat} {pl n st : Nat} {ik : Int32} {td nd nh : Nat} {bs : Int32} {ktd knd knh : Nat} {kbs : Int32} {pg kd ag pa bo dm dn hh hn kag kpa kbo kdm kdn khh khn wb ps ty : Nat → Int32} {z0 : Nat → Int32} : wsets (XW cI a pl n st ik td nd nh bs ktd knd knh kbs pg kd ag pa bo dm dn hh hn kag kpa kbo kdm kdn khh khn wb ps ty) [10, 17] [(a 10, .inr (1, [.ref (a 17)])), (a 17, .inl (cI, 6, .inl z0))] = XW cI a pl n st ik td nd nh bs ktd knd knh kbs pg kd ag pa bo dm z0 hh hn kag kpa kbo kdm kdn khh khn wb ps ty := rfl
set_option maxRecDepth 100000 in
set_option maxHeartbeats 4000000 in
theorem c_X2_debt (l : Launch) (D : va_G) (cI cB : ClassId) (aS : Nat) (a : Nat → Nat) (pl n st : Nat) (ik : Int32) (td nd nh : Nat) (bs : Int32) (ktd knd knh : Nat) (kbs : Int32) (pg kd ag pa bo dm dn hh hn kag kpa kbo kdm kdn khh khn wb ps ty : Nat → Int32) (x y : Int32) (hD0 : va_D (fun _ => True) (XW cI a pl n st ik td nd nh bs ktd knd knh kbs pg kd ag pa bo dm dn hh hn kag kpa kbo kdm kdn khh khn wb ps ty)) (qnd : nd ≤ 6) (hn6 : n ≤ 6) : Met l yX2_debt (mw yX2_debt cX2_debt 3 (some .int)) rm_X2_debt (RP D cI cB aS (XW cI a pl n st ik td nd nh bs ktd knd knh kbs pg kd ag pa bo dm dn hh hn kag kpa kbo kdm kdn khh khn wb ps ty) [.ref (a 0), .int x, .int y]) (wq mkI (XW cI a pl n st ik td nd nh bs ktd knd knh kbs pg kd ag pa bo dm dn hh hn kag kpa kbo kdm kdn khh khn wb ps ty) (fun (u : (Nat → Int32) × (Nat → Int32) × Nat) => XW cI a pl n st ik td u.2.2 nh bs ktd knd knh kbs pg kd ag pa bo u.1 u.2.1 hh hn kag kpa kbo kdm kdn khh khn wb ps ty) D (fun (r : Int32) (u : (Nat → Int32) × (Nat → Int32) × Nat) => (r, u) = debF n nd dm dn x y)) 0 0 (inW (XW cI a pl n st ik td nd nh bs ktd knd knh kbs pg kd ag pa bo dm dn hh hn kag kpa kbo kdm kdn khh khn wb ps ty)) := by
  refine met_of (by decide) (Nat.le_of_ble_eq_true rfl) ?_
  intro p e s m below meth c ls hx hb hr hml hown hg hlocks hin hK hP hl
  have hown : s.vm.findClass RX2 = some m.cls := hown
  have hl : lv_has ls 3 [(0, .ref (a 0)), (1, .int x), (2, .int y)] := hl
  have hD := hD0.here
  have hS0 : va_S (inW (XW cI a pl n st ik td nd nh bs ktd knd knh kbs pg kd ag pa bo dm dn hh hn kag kpa kbo kdm kdn khh khn wb ps ty)) s.heap s.heap [] := va_S.rf
  obtain ⟨H, hH⟩ : ∃ H, H = s.heap := ⟨_, rfl⟩
  have hS : va_S (inW (XW cI a pl n st ik td nd nh bs ktd knd knh kbs pg kd ag pa bo dm dn hh hn kag kpa kbo kdm kdn khh khn wb ps ty)) s.heap H [] := by rw [hH]; exact hS0
  clear hS0
  rw [← hH] at hP ⊢
  generalize hAe : inW (XW cI a pl n st ik td nd nh bs ktd knd knh kbs pg kd ag pa bo dm dn hh hn kag kpa kbo kdm kdn khh khn wb ps ty) = A at hD hS ⊢
  refine lv_iload_n hx hb dX2_debt_0 rfl (lv_at hl 1 rfl) ?_
  refine lv_iconst (v := (nI 1)) hx hb dX2_debt_1 (by decide) ?_
  refine lv_icmp_lt (tgt := 21) hx hb dX2_debt_2 (by decide) (fun c_2 => ?_) (fun c_2 => ?_)
  · skip
    refine lv_bipush (v := (-102)) hx hb dX2_debt_21 (by decide) ?_
    subst hAe
    exact wr_i (w1 := fun (u : (Nat → Int32) × (Nat → Int32) × Nat) => XW cI a pl n st ik td u.2.2 nh bs ktd knd knh kbs pg kd ag pa bo u.1 u.2.1 hh hn kag kpa kbo kdm kdn khh khn wb ps ty) hx hb hr hlocks hS (dm, dn, nd) hP dX2_debt_23 ((if_neg (fun q => Int32.not_lt.mpr q.1.1 c_2)).symm)
  · skip
    refine lv_iload_n hx hb dX2_debt_5 rfl (lv_at hl 1 rfl) ?_
    refine lv_bipush (v := (nI 9)) hx hb dX2_debt_6 (by decide) ?_
    refine lv_icmp_gt (tgt := 21) hx hb dX2_debt_8 (by decide) (fun c_8 => ?_) (fun c_8 => ?_)
    · skip
      refine lv_bipush (v := (-102)) hx hb dX2_debt_21 (by decide) ?_
      subst hAe
      exact wr_i (w1 := fun (u : (Nat → Int32) × (Nat → Int32) × Nat) => XW cI a pl n st ik td u.2.2 nh bs ktd knd knh kbs pg kd ag pa bo u.1 u.2.1 hh hn kag kpa kbo kdm kdn khh khn wb ps ty) hx hb hr hlocks hS (dm, dn, nd) hP dX2_debt_23 ((if_neg (fun q => Int32.not_lt.mpr q.1.2 c_8)).symm)
    · skip
      refine lv_iload_n hx hb dX2_debt_11 rfl (lv_at hl 2 rfl) ?_
      refine lv_if_lt (tgt := 21) hx hb dX2_debt_12 (by decide) (fun c_12 => ?_) (fun c_12 => ?_)
      · skip
        refine lv_bipush (v := (-102)) hx hb dX2_debt_21 (by decide) ?_
        subst hAe
        exact wr_i (w1 := fun (u : (Nat → Int32) × (Nat → Int32) × Nat) => XW cI a pl n st ik td u.2.2 nh bs ktd knd knh kbs pg kd ag pa bo u.1 u.2.1 hh hn kag kpa kbo kdm kdn khh khn wb ps ty) hx hb hr hlocks hS (dm, dn, nd) hP dX2_debt_23 ((if_neg (fun q => Int32.not_lt.mpr q.2.1 c_12)).symm)
      · skip
        refine lv_iload_n hx hb dX2_debt_15 rfl (lv_at hl 2 rfl) ?_
        refine lv_bipush (v := (nI 99)) hx hb dX2_debt_16 (by decide) ?_
        refine lv_icmp_le (tgt := 24) hx hb dX2_debt_18 (by decide) (fun c_18 => ?_) (fun c_18 => ?_)
        · skip
          refine lv_aload_n hx hb dX2_debt_24 rfl (lv_at hl 0 rfl) ?_
          refine va_get (D := D) (ci := 2) (v := .int (nI n)) (C := RX2) (T := TX2) (N := 11) hx hb hg us_X2 hown hK.1 hP 0 XW_g0 rfl 2 (by decide) (hg _ gm_68) (fun _ h9 => h9) rfl dX2_debt_25 ?_
          refine nv_if_ne (tgt := 34) hx hb dX2_debt_28 (by omega) (by decide) (fun c_28 => ?_) (fun c_28 => ?_)
          · skip
            refine lv_aload_n hx hb dX2_debt_34 rfl (lv_at hl 0 rfl) ?_
            refine va_get (D := D) (ci := 2) (v := .ref (a 5)) (C := RX2) (T := TX2) (N := 11) hx hb hg us_X2 hown hK.1 hP 0 XW_g0 rfl 5 (by decide) (hg _ gm_71) (fun _ h9 => h9) rfl dX2_debt_35 ?_
            refine va_getN (D := D) (ci := 0) (v := .int (nI nd)) (C := RX0) (T := TX0) (N := 11) hx hb hg us_X0 hown hK.1 hP 5 XW_g5 rfl 2 (by decide) (nl_139 hK) (fun _ h9 => h9) rfl dX2_debt_38 ?_
            refine lv_bipush (v := (nI 6)) hx hb dX2_debt_41 (by decide) ?_
            refine nv_icmp_lt (tgt := 49) hx hb dX2_debt_43 (by omega) (by omega) (by decide) (fun c_43 => ?_) (fun c_43 => ?_)
            · skip
              refine lv_aload_n hx hb dX2_debt_49 rfl (lv_at hl 0 rfl) ?_
              refine va_get (D := D) (ci := 2) (v := .ref (a 5)) (C := RX2) (T := TX2) (N := 11) hx hb hg us_X2 hown hK.1 hP 0 XW_g0 rfl 5 (by decide) (hg _ gm_71) (fun _ h9 => h9) rfl dX2_debt_50 ?_
              refine va_getN (D := D) (ci := 0) (v := .ref (a 9)) (C := RX0) (T := TX0) (N := 11) hx hb hg us_X0 hown hK.1 hP 5 XW_g5 rfl 7 (by decide) (nl_142 hK) (fun _ h9 => h9) rfl dX2_debt_53 ?_
              refine lv_aload_n hx hb dX2_debt_56 rfl (lv_at hl 0 rfl) ?_
              refine va_get (D := D) (ci := 2) (v := .ref (a 5)) (C := RX2) (T := TX2) (N := 11) hx hb hg us_X2 hown hK.1 hP 0 XW_g0 rfl 5 (by decide) (hg _ gm_71) (fun _ h9 => h9) rfl dX2_debt_57 ?_
              refine va_getN (D := D) (ci := 0) (v := .int (nI nd)) (C := RX0) (T := TX0) (N := 11) hx hb hg us_X0 hown hK.1 hP 5 XW_g5 rfl 2 (by decide) (nl_139 hK) (fun _ h9 => h9) rfl dX2_debt_60 ?_
              refine lv_iload_n hx hb dX2_debt_63 rfl (lv_at hl 1 rfl) ?_
              have hP_1 : va_P D vwCl [(a 9, .inr (1, [.ref (a 16)])), (a 16, .inl (cI, 6, .inl dm))] _ := P_s2 hP XW_g9 XW_g16
              have hC_2 : ([9, 16] : List Nat).map (fun q_ => (XW cI a pl n st ik td nd nh bs ktd knd knh kbs pg kd ag pa bo dm dn hh hn kag kpa kbo kdm kdn khh khn wb ps ty : va_W)[q_]?) = List.map some ([(a 9, .inr (1, [.ref (a 16)])), (a 16, .inl (cI, 6, .inl dm))] : va_W) := M_s2 XW_g9 XW_g16
              have hDc_2 : va_D (fun _ => True) [(a 9, .inr (1, [.ref (a 16)])), (a 16, .inl (cI, 6, .inl dm))] := (hD.sub (ws' := [(a 9, .inr (1, [.ref (a 16)])), (a 16, .inl (cI, 6, .inl dm))]) [9, 16] (by decide) hC_2).weaken (fun _ _ _ _ => trivial)
              refine wrVv (As := [.int (nI nd), .int x]) (rest := []) hx hb hml hown hg (c_X1_put l D cI cB aS (a 9) (a 16) 6 dm nd x hDc_2 (by first | assumption | omega) (by first | assumption | omega)) gm_137 vf_X1_put ⟨Nat.le_of_ble_eq_true rfl, Nat.le_of_ble_eq_true rfl⟩ ⟨rfl, rfl⟩ ⟨Nat.zero_le _, Nat.zero_le _⟩ (RP.preV hK hP_1 (q0 := 0) (ci := 1) rfl rfl) rfl hl.1 rfl (Nat.le_of_ble_eq_true rfl) dX2_debt_64 hS (inW_sub hD [9, 16] hC_2) (fun u_3 H1 locs hpo_3 hP1 hk1 hS => ?_)
              have hP : va_P D vwCl (XW cI a pl n st ik td nd nh bs ktd knd knh kbs pg kd ag pa bo (upd dm nd x) dn hh hn kag kpa kbo kdm kdn khh khn wb ps ty) H1 := P_eq (wjoin (wc := [(a 9, .inr (1, [.ref (a 16)])), (a 16, .inl (cI, 6, .inl dm))]) (w1 := [(a 9, .inr (1, [.ref (a 16)])), (a 16, .inl (cI, 6, .inl (upd dm nd x)))]) hP hD [9, 16] hC_2 rfl hP1 hk1) XW_wsets_9
              have hD : va_D A (XW cI a pl n st ik td nd nh bs ktd knd knh kbs pg kd ag pa bo (upd dm nd x) dn hh hn kag kpa kbo kdm kdn khh khn wb ps ty) := hD.addr (XW_addr.trans XW_addr.symm)
              clear hP1 hk1
              generalize H1 = H at hP hS ⊢
              refine lv_aload_n hx hb dX2_debt_67 rfl (lv_at hl 0 rfl) ?_
              refine va_get (D := D) (ci := 2) (v := .ref (a 5)) (C := RX2) (T := TX2) (N := 11) hx hb hg us_X2 hown hK.1 hP 0 XW_g0 rfl 5 (by decide) (hg _ gm_71) (fun _ h9 => h9) rfl dX2_debt_68 ?_
              refine va_getN (D := D) (ci := 0) (v := .ref (a 10)) (C := RX0) (T := TX0) (N := 11) hx hb hg us_X0 hown hK.1 hP 5 XW_g5 rfl 8 (by decide) (nl_145 hK) (fun _ h9 => h9) rfl dX2_debt_71 ?_
              refine lv_aload_n hx hb dX2_debt_74 rfl (lv_at hl 0 rfl) ?_
              refine va_get (D := D) (ci := 2) (v := .ref (a 5)) (C := RX2) (T := TX2) (N := 11) hx hb hg us_X2 hown hK.1 hP 0 XW_g0 rfl 5 (by decide) (hg _ gm_71) (fun _ h9 => h9) rfl dX2_debt_75 ?_
              refine va_getN (D := D) (ci := 0) (v := .int (nI nd)) (C := RX0) (T := TX0) (N := 11) hx hb hg us_X0 hown hK.1 hP 5 XW_g5 rfl 2 (by decide) (nl_139 hK) (fun _ h9 => h9) rfl dX2_debt_78 ?_
              refine lv_iload_n hx hb dX2_debt_81 rfl (lv_at hl 2 rfl) ?_
              have hP_4 : va_P D vwCl [(a 10, .inr (1, [.ref (a 17)])), (a 17, .inl (cI, 6, .inl dn))] _ := P_s2 hP XW_g10 XW_g17
              have hC_5 : ([10, 17] : List Nat).map (fun q_ => (XW cI a pl n st ik td nd nh bs ktd knd knh kbs pg kd ag pa bo (upd dm nd x) dn hh hn kag kpa kbo kdm kdn khh khn wb ps ty : va_W)[q_]?) = List.map some ([(a 10, .inr (1, [.ref (a 17)])), (a 17, .inl (cI, 6, .inl dn))] : va_W) := M_s2 XW_g10 XW_g17
              have hDc_5 : va_D (fun _ => True) [(a 10, .inr (1, [.ref (a 17)])), (a 17, .inl (cI, 6, .inl dn))] := (hD.sub (ws' := [(a 10, .inr (1, [.ref (a 17)])), (a 17, .inl (cI, 6, .inl dn))]) [10, 17] (by decide) hC_5).weaken (fun _ _ _ _ => trivial)
              refine wrVv (As := [.int (nI nd), .int y]) (rest := []) hx hb hml hown hg (c_X1_put l D cI cB aS (a 10) (a 17) 6 dn nd y hDc_5 (by first | assumption | omega) (by first | assumption | omega)) gm_137 vf_X1_put ⟨Nat.le_of_ble_eq_true rfl, Nat.le_of_ble_eq_true rfl⟩ ⟨rfl, rfl⟩ ⟨Nat.zero_le _, Nat.zero_le _⟩ (RP.preV hK hP_4 (q0 := 0) (ci := 1) rfl rfl) rfl hl.1 rfl (Nat.le_of_ble_eq_true rfl) dX2_debt_82 hS (inW_sub hD [10, 17] hC_5) (fun u_6 H1 locs hpo_6 hP1 hk1 hS => ?_)
              have hP : va_P D vwCl (XW cI a pl n st ik td nd nh bs ktd knd knh kbs pg kd ag pa bo (upd dm nd x) (upd dn nd y) hh hn kag kpa kbo kdm kdn khh khn wb ps ty) H1 := P_eq (wjoin (wc := [(a 10, .inr (1, [.ref (a 17)])), (a 17, .inl (cI, 6, .inl dn))]) (w1 := [(a 10, .inr (1, [.ref (a 17)])), (a 17, .inl (cI, 6, .inl (upd dn nd y)))]) hP hD [10, 17] hC_5 rfl hP1 hk1) XW_wsets_10
              have hD : va_D A (XW cI a pl n st ik td nd nh bs ktd knd knh kbs pg kd ag pa bo (upd dm nd x) (upd dn nd y) hh hn kag kpa kbo kdm kdn khh khn wb ps ty) := hD.addr (XW_addr.trans XW_addr.symm)
              clear hP1 hk1
              generalize H1 = H at hP hS ⊢
              refine lv_aload_n hx hb dX2_debt_85 rfl (lv_at hl 0 rfl) ?_
              refine va_get (D := D) (ci := 2) (v := .ref (a 5)) (C := RX2) (T := TX2) (N := 11) hx hb hg us_X2 hown hK.1 hP 0 XW_g0 rfl 5 (by decide) (hg _ gm_71) (fun _ h9 => h9) rfl dX2_debt_86 ?_
              refine lv_dup hx hb dX2_debt_89 rfl ?_
              refine va_getN (D := D) (ci := 0) (v := .int (nI nd)) (C := RX0) (T := TX0) (N := 11) hx hb hg us_X0 hown hK.1 hP 5 XW_g5 rfl 2 (by decide) (nl_139 hK) (fun _ h9 => h9) rfl dX2_debt_90 ?_
              refine lv_iconst (v := (nI 1)) hx hb dX2_debt_93 (by decide) ?_
              refine nv_iadd hx hb dX2_debt_94 ?_
              refine va_putN (D := D) (ci := 0) (v := .int (nI (nd + 1))) (ty := .int) (C := RX0) (T := TX0) (N := 11) hx hb hg us_X0 tyX0 tyX0_ok nmX0 hown hK.1 hP hD hS 5 XW_g5 rfl 2 (by decide) (nl_139 hK) (fun _ h9 => h9) rfl (by decide +kernel) rfl rfl (Nat.le_of_ble_eq_true rfl) dX2_debt_95 (fun H locs hP hD hS => ?_)
              have hP : va_P D vwCl (XW cI a pl n st ik td (nd + 1) nh bs ktd knd knh kbs pg kd ag pa bo (upd dm nd x) (upd dn nd y) hh hn kag kpa kbo kdm kdn khh khn wb ps ty) H := P_eq hP XW_set_1
              have hD : va_D A (XW cI a pl n st ik td (nd + 1) nh bs ktd knd knh kbs pg kd ag pa bo (upd dm nd x) (upd dn nd y) hh hn kag kpa kbo kdm kdn khh khn wb ps ty) := D_eq hD XW_set_1
              refine lv_aload_n hx hb dX2_debt_98 rfl (lv_at hl 0 rfl) ?_
              refine va_get (D := D) (ci := 2) (v := .ref (a 5)) (C := RX2) (T := TX2) (N := 11) hx hb hg us_X2 hown hK.1 hP 0 XW_g0 rfl 5 (by decide) (hg _ gm_71) (fun _ h9 => h9) rfl dX2_debt_99 ?_
              refine va_getN (D := D) (ci := 0) (v := .int (nI (nd + 1))) (C := RX0) (T := TX0) (N := 11) hx hb hg us_X0 hown hK.1 hP 5 XW_g5 rfl 2 (by decide) (nl_139 hK) (fun _ h9 => h9) rfl dX2_debt_102 ?_
              subst hAe
              exact wr_i (w1 := fun (u : (Nat → Int32) × (Nat → Int32) × Nat) => XW cI a pl n st ik td u.2.2 nh bs ktd knd knh kbs pg kd ag pa bo u.1 u.2.1 hh hn kag kpa kbo kdm kdn khh khn wb ps ty) hx hb hr hlocks hS (upd dm nd x, upd dn nd y, nd + 1) hP dX2_debt_105 (by unfold debF; rw [if_pos ⟨⟨Int32.not_lt.mp c_2, Int32.not_lt.mp c_8⟩, Int32.not_lt.mp c_12, c_18⟩, if_neg c_28, if_neg (by omega)])
            · skip
              refine lv_bipush (v := (-104)) hx hb dX2_debt_46 (by decide) ?_
              subst hAe
              exact wr_i (w1 := fun (u : (Nat → Int32) × (Nat → Int32) × Nat) => XW cI a pl n st ik td u.2.2 nh bs ktd knd knh kbs pg kd ag pa bo u.1 u.2.1 hh hn kag kpa kbo kdm kdn khh khn wb ps ty) hx hb hr hlocks hS (dm, dn, nd) hP dX2_debt_48 (by unfold debF; rw [if_pos ⟨⟨Int32.not_lt.mp c_2, Int32.not_lt.mp c_8⟩, Int32.not_lt.mp c_12, c_18⟩, if_neg c_28, if_pos (by omega)])
          · skip
            refine lv_bipush (v := (-103)) hx hb dX2_debt_31 (by decide) ?_
            subst hAe
            exact wr_i (w1 := fun (u : (Nat → Int32) × (Nat → Int32) × Nat) => XW cI a pl n st ik td u.2.2 nh bs ktd knd knh kbs pg kd ag pa bo u.1 u.2.1 hh hn kag kpa kbo kdm kdn khh khn wb ps ty) hx hb hr hlocks hS (dm, dn, nd) hP dX2_debt_33 (by unfold debF; rw [if_pos ⟨⟨Int32.not_lt.mp c_2, Int32.not_lt.mp c_8⟩, Int32.not_lt.mp c_12, c_18⟩, if_pos c_28])
        · skip
          refine lv_bipush (v := (-102)) hx hb dX2_debt_21 (by decide) ?_
          subst hAe
          exact wr_i (w1 := fun (u : (Nat → Int32) × (Nat → Int32) × Nat) => XW cI a pl n st ik td u.2.2 nh bs ktd knd knh kbs pg kd ag pa bo u.1 u.2.1 hh hn kag kpa kbo kdm kdn khh khn wb ps ty) hx hb hr hlocks hS (dm, dn, nd) hP dX2_debt_23 ((if_neg (fun q => c_18 q.2.2)).symm)
abbrev rm_X2_years : Room := { frames := 5, cells := 0, slots := 0, locals := 117 }
theorem vf_X1_take : vfacts RX1 yX1_take cX1_take 3 none 1 := ⟨⟨rfl, by decide +kernel, by decide +kernel, by decide +kernel⟩, gm_201, gm_202, gm_3, gm_203⟩
theorem XW_wsets_11 {cI : ClassId} {a : Nat → Nat} {pl n st : Nat} {ik : Int32} {td nd nh : Nat} {bs : Int32} {ktd knd knh : Nat} {kbs : Int32} {pg kd ag pa bo dm dn hh hn kag kpa kbo kdm kdn khh khn wb ps ty : Nat → Int32} {z0 : Nat → Int32} : wsets (XW cI a pl n st ik td nd nh bs ktd knd knh kbs pg kd ag pa bo dm dn hh hn kag kpa kbo kdm kdn khh khn wb ps ty) [35, 36, 6, 13] [(a 35, .inr (1, [.ref (a 36)])), (a 36, .inl (cI, 6, .inl z0)), (a 6, .inr (1, [.ref (a 13)])), (a 13, .inl (cI, 6, .inl ag))] = XW cI a pl n st ik td nd nh bs ktd knd knh kbs pg kd ag pa bo dm dn hh hn kag kpa kbo kdm kdn khh khn z0 ps ty := rfl
theorem sf_X2_nextSeed : sfacts RX2 yX2_nextSeed cX2_nextSeed 1 (some .int) 1 := ⟨⟨rfl, by decide +kernel, by decide +kernel, by decide +kernel⟩, gm_205, gm_2, gm_206⟩
theorem vf_X2_drawnHouse : vfacts RX2 yX2_drawnHouse cX2_drawnHouse 2 (some .int) 1 := ⟨⟨rfl, by decide +kernel, by decide +kernel, by decide +kernel⟩, gm_211, gm_369, gm_2, gm_212⟩
theorem vf_X2_bearIfMayBe : vfacts RX2 yX2_bearIfMayBe cX2_bearIfMayBe 3 none 2 := ⟨⟨rfl, by decide +kernel, by decide +kernel, by decide +kernel⟩, gm_215, gm_370, gm_2, gm_216⟩
theorem XW_wsets_12 {cI : ClassId} {a : Nat → Nat} {pl n st : Nat} {ik : Int32} {td nd nh : Nat} {bs : Int32} {ktd knd knh : Nat} {kbs : Int32} {pg kd ag pa bo dm dn hh hn kag kpa kbo kdm kdn khh khn wb ps ty : Nat → Int32} {z0 : Nat → Int32} : wsets (XW cI a pl n st ik td nd nh bs ktd knd knh kbs pg kd ag pa bo dm dn hh hn kag kpa kbo kdm kdn khh khn wb ps ty) [0, 3, 4, 35, 36] [(a 0, .inr (2, [.ref (a 1), .int (nI pl), .int (nI n), .int (nI st), .ref (a 3), .ref (a 5), .ref (a 20), .int ik, .ref (a 35), .ref (a 37), .ref (a 39)])), (a 3, .inr (1, [.ref (a 4)])), (a 4, .inl (cI, 6, .inl kd)), (a 35, .inr (1, [.ref (a 36)])), (a 36, .inl (cI, 6, .inl z0))] = XW cI a pl n st ik td nd nh bs ktd knd knh kbs pg kd ag pa bo dm dn hh hn kag kpa kbo kdm kdn khh khn z0 ps ty := rfl
set_option maxRecDepth 100000 in
set_option maxHeartbeats 4000000 in
theorem c_X2_years (l : Launch) (D : va_G) (cI cB : ClassId) (aS : Nat) (a : Nat → Nat) (pl n st : Nat) (ik : Int32) (td nd nh : Nat) (bs : Int32) (ktd knd knh : Nat) (kbs : Int32) (pg kd ag pa bo dm dn hh hn kag kpa kbo kdm kdn khh khn wb ps ty : Nat → Int32) (x y w : Int32) (hD0 : va_D (fun _ => True) (XW cI a pl n st ik td nd nh bs ktd knd knh kbs pg kd ag pa bo dm dn hh hn kag kpa kbo kdm kdn khh khn wb ps ty)) (hn6 : n ≤ 6) : Met l yX2_years (mw yX2_years cX2_years 7 (some .int)) rm_X2_years (RP D cI cB aS (XW cI a pl n st ik td nd nh bs ktd knd knh kbs pg kd ag pa bo dm dn hh hn kag kpa kbo kdm kdn khh khn wb ps ty) [.ref (a 0), .int x, .int y, .int w]) (wq mkI (XW cI a pl n st ik td nd nh bs ktd knd knh kbs pg kd ag pa bo dm dn hh hn kag kpa kbo kdm kdn khh khn wb ps ty) (fun (u : (Nat → Int32)) => XW cI a pl n st ik td nd nh bs ktd knd knh kbs pg kd ag pa bo dm dn hh hn kag kpa kbo kdm kdn khh khn u ps ty) D (fun (r : Int32) (_ : (Nat → Int32)) => r = (yrF n kd ag x y w))) 0 0 (inW (XW cI a pl n st ik td nd nh bs ktd knd knh kbs pg kd ag pa bo dm dn hh hn kag kpa kbo kdm kdn khh khn wb ps ty)) := by
  refine met_of (by decide) (Nat.le_of_ble_eq_true rfl) ?_
  intro p e s m below meth c ls hx hb hr hml hown hg hlocks hin hK hP hl
  have hown : s.vm.findClass RX2 = some m.cls := hown
  have hl : lv_has ls 7 [(0, .ref (a 0)), (1, .int x), (2, .int y), (3, .int w)] := hl
  have hD := hD0.here
  have hS0 : va_S (inW (XW cI a pl n st ik td nd nh bs ktd knd knh kbs pg kd ag pa bo dm dn hh hn kag kpa kbo kdm kdn khh khn wb ps ty)) s.heap s.heap [] := va_S.rf
  obtain ⟨H, hH⟩ : ∃ H, H = s.heap := ⟨_, rfl⟩
  have hS : va_S (inW (XW cI a pl n st ik td nd nh bs ktd knd knh kbs pg kd ag pa bo dm dn hh hn kag kpa kbo kdm kdn khh khn wb ps ty)) s.heap H [] := by rw [hH]; exact hS0
  clear hS0
  rw [← hH] at hP ⊢
  generalize hAe : inW (XW cI a pl n st ik td nd nh bs ktd knd knh kbs pg kd ag pa bo dm dn hh hn kag kpa kbo kdm kdn khh khn wb ps ty) = A at hD hS ⊢
  refine lv_iload_n hx hb dX2_years_0 rfl (lv_at hl 1 rfl) ?_
  refine lv_iconst (v := (nI 1)) hx hb dX2_years_1 (by decide) ?_
  refine lv_icmp_lt (tgt := 24) hx hb dX2_years_2 (by decide) (fun c_2 => ?_) (fun c_2 => ?_)
  · skip
    refine lv_bipush (v := (-102)) hx hb dX2_years_24 (by decide) ?_
    subst hAe
    exact wr_i (w1 := fun (u : (Nat → Int32)) => XW cI a pl n st ik td nd nh bs ktd knd knh kbs pg kd ag pa bo dm dn hh hn kag kpa kbo kdm kdn khh khn u ps ty) hx hb hr hlocks hS wb hP dX2_years_26 ((if_neg (fun q => Int32.not_lt.mpr q.1.1 c_2)).symm)
  · skip
    refine lv_iload_n hx hb dX2_years_5 rfl (lv_at hl 1 rfl) ?_
    refine lv_bipush (v := (nI 60)) hx hb dX2_years_6 (by decide) ?_
    refine lv_icmp_gt (tgt := 24) hx hb dX2_years_8 (by decide) (fun c_8 => ?_) (fun c_8 => ?_)
    · skip
      refine lv_bipush (v := (-102)) hx hb dX2_years_24 (by decide) ?_
      subst hAe
      exact wr_i (w1 := fun (u : (Nat → Int32)) => XW cI a pl n st ik td nd nh bs ktd knd knh kbs pg kd ag pa bo dm dn hh hn kag kpa kbo kdm kdn khh khn u ps ty) hx hb hr hlocks hS wb hP dX2_years_26 ((if_neg (fun q => Int32.not_lt.mpr q.1.2 c_8)).symm)
    · skip
      obtain ⟨k, k1, k2, ek⟩ := by_of ⟨Int32.not_lt.mp c_2, Int32.not_lt.mp c_8⟩ (by decide) (by decide)
      subst ek
      refine lv_iload_n hx hb dX2_years_11 rfl (lv_at hl 2 rfl) ?_
      refine lv_if_lt (tgt := 24) hx hb dX2_years_12 (by decide) (fun c_12 => ?_) (fun c_12 => ?_)
      · skip
        refine lv_bipush (v := (-102)) hx hb dX2_years_24 (by decide) ?_
        subst hAe
        exact wr_i (w1 := fun (u : (Nat → Int32)) => XW cI a pl n st ik td nd nh bs ktd knd knh kbs pg kd ag pa bo dm dn hh hn kag kpa kbo kdm kdn khh khn u ps ty) hx hb hr hlocks hS wb hP dX2_years_26 ((if_neg (fun q => Int32.not_lt.mpr q.2.1 c_12)).symm)
      · skip
        obtain ⟨z, z1, ez⟩ := nI_of c_12
        subst ez
        refine lv_iload_n hx hb dX2_years_15 rfl (lv_at hl 3 rfl) ?_
        refine lv_if_lt (tgt := 24) hx hb dX2_years_16 (by decide) (fun c_16 => ?_) (fun c_16 => ?_)
        · skip
          refine lv_bipush (v := (-102)) hx hb dX2_years_24 (by decide) ?_
          subst hAe
          exact wr_i (w1 := fun (u : (Nat → Int32)) => XW cI a pl n st ik td nd nh bs ktd knd knh kbs pg kd ag pa bo dm dn hh hn kag kpa kbo kdm kdn khh khn u ps ty) hx hb hr hlocks hS wb hP dX2_years_26 ((if_neg (fun q => Int32.not_lt.mpr q.2.2.1 c_16)).symm)
        · skip
          refine lv_iload_n hx hb dX2_years_19 rfl (lv_at hl 3 rfl) ?_
          refine lv_iconst (v := (nI 2)) hx hb dX2_years_20 (by decide) ?_
          refine lv_icmp_le (tgt := 27) hx hb dX2_years_21 (by decide) (fun c_21 => ?_) (fun c_21 => ?_)
          · skip
            refine lv_aload_n hx hb dX2_years_27 rfl (lv_at hl 0 rfl) ?_
            refine va_get (D := D) (ci := 2) (v := .int (nI n)) (C := RX2) (T := TX2) (N := 11) hx hb hg us_X2 hown hK.1 hP 0 XW_g0 rfl 2 (by decide) (hg _ gm_68) (fun _ h9 => h9) rfl dX2_years_28 ?_
            refine nv_if_ne (tgt := 37) hx hb dX2_years_31 (by omega) (by decide) (fun c_31 => ?_) (fun c_31 => ?_)
            · skip
              refine lv_aload_n hx hb dX2_years_37 rfl (lv_at hl 0 rfl) ?_
              refine va_get (D := D) (ci := 2) (v := .ref (a 35)) (C := RX2) (T := TX2) (N := 11) hx hb hg us_X2 hown hK.1 hP 0 XW_g0 rfl 8 (by decide) (hg _ gm_74) (fun _ h9 => h9) rfl dX2_years_38 ?_
              refine lv_aload_n hx hb dX2_years_41 rfl (lv_at hl 0 rfl) ?_
              refine va_get (D := D) (ci := 2) (v := .ref (a 5)) (C := RX2) (T := TX2) (N := 11) hx hb hg us_X2 hown hK.1 hP 0 XW_g0 rfl 5 (by decide) (hg _ gm_71) (fun _ h9 => h9) rfl dX2_years_42 ?_
              refine va_getN (D := D) (ci := 0) (v := .ref (a 6)) (C := RX0) (T := TX0) (N := 11) hx hb hg us_X0 hown hK.1 hP 5 XW_g5 rfl 4 (by decide) (nl_76 hK) (fun _ h9 => h9) rfl dX2_years_45 ?_
              have hP_1 : va_P D vwCl [(a 35, .inr (1, [.ref (a 36)])), (a 36, .inl (cI, 6, .inl wb)), (a 6, .inr (1, [.ref (a 13)])), (a 13, .inl (cI, 6, .inl ag))] _ := P_s4 hP XW_g35 XW_g36 XW_g6 XW_g13
              have hC_2 : ([35, 36, 6, 13] : List Nat).map (fun q_ => (XW cI a pl n st ik td nd nh bs ktd knd knh kbs pg kd ag pa bo dm dn hh hn kag kpa kbo kdm kdn khh khn wb ps ty : va_W)[q_]?) = List.map some ([(a 35, .inr (1, [.ref (a 36)])), (a 36, .inl (cI, 6, .inl wb)), (a 6, .inr (1, [.ref (a 13)])), (a 13, .inl (cI, 6, .inl ag))] : va_W) := M_s4 XW_g35 XW_g36 XW_g6 XW_g13
              have hDc_2 : va_D (fun _ => True) [(a 35, .inr (1, [.ref (a 36)])), (a 36, .inl (cI, 6, .inl wb)), (a 6, .inr (1, [.ref (a 13)])), (a 13, .inl (cI, 6, .inl ag))] := (hD.sub (ws' := [(a 35, .inr (1, [.ref (a 36)])), (a 36, .inl (cI, 6, .inl wb)), (a 6, .inr (1, [.ref (a 13)])), (a 13, .inl (cI, 6, .inl ag))]) [35, 36, 6, 13] (by decide) hC_2).weaken (fun _ _ _ _ => trivial)
              refine wrVv (As := [.ref (a 6)]) (rest := []) hx hb hml hown hg (c_X1_take l D cI cB aS (a 35) (a 36) 6 wb (a 6) (a 13) ag hDc_2 (by first | assumption | omega)) gm_200 vf_X1_take ⟨Nat.le_of_ble_eq_true rfl, Nat.le_of_ble_eq_true rfl⟩ ⟨rfl, rfl⟩ ⟨Nat.zero_le _, Nat.zero_le _⟩ (RP.preV hK hP_1 (q0 := 0) (ci := 1) rfl rfl) rfl hl.1 rfl (Nat.le_of_ble_eq_true rfl) dX2_years_48 hS (inW_sub hD [35, 36, 6, 13] hC_2) (fun u_3 H1 locs hpo_3 hP1 hk1 hS => ?_)
              have hP : va_P D vwCl (XW cI a pl n st ik td nd nh bs ktd knd knh kbs pg kd ag pa bo dm dn hh hn kag kpa kbo kdm kdn khh khn ag ps ty) H1 := P_eq (wjoin (wc := [(a 35, .inr (1, [.ref (a 36)])), (a 36, .inl (cI, 6, .inl wb)), (a 6, .inr (1, [.ref (a 13)])), (a 13, .inl (cI, 6, .inl ag))]) (w1 := [(a 35, .inr (1, [.ref (a 36)])), (a 36, .inl (cI, 6, .inl ag)), (a 6, .inr (1, [.ref (a 13)])), (a 13, .inl (cI, 6, .inl ag))]) hP hD [35, 36, 6, 13] hC_2 rfl hP1 hk1) XW_wsets_11
              have hD : va_D A (XW cI a pl n st ik td nd nh bs ktd knd knh kbs pg kd ag pa bo dm dn hh hn kag kpa kbo kdm kdn khh khn ag ps ty) := hD.addr (XW_addr.trans XW_addr.symm)
              clear hP1 hk1
              generalize H1 = H at hP hS ⊢
              refine lv_iload_n hx hb dX2_years_51 rfl (lv_at hl 2 rfl) ?_
              refine lv_istore (lv' := [(4, .int (nI z)), (0, .ref (a 0)), (1, .int (nI k)), (2, .int (nI z)), (3, .int w)]) hx hb dX2_years_52 hl (by decide) rfl (fun ls hl => ?_)
              refine lv_iconst (v := (nI 0)) hx hb dX2_years_54 (by decide) ?_
              refine lv_istore (lv' := [(5, .int (nI 0)), (4, .int (nI z)), (0, .ref (a 0)), (1, .int (nI k)), (2, .int (nI z)), (3, .int w)]) hx hb dX2_years_55 hl (by decide) rfl (fun ls hl => ?_)
              refine lv_iconst (v := (nI 0)) hx hb dX2_years_57 (by decide) ?_
              refine lv_istore (lv' := [(6, .int (nI 0)), (5, .int (nI 0)), (4, .int (nI z)), (0, .ref (a 0)), (1, .int (nI k)), (2, .int (nI z)), (3, .int w)]) hx hb dX2_years_58 hl (by decide) rfl (fun ls hl => ?_)
              -- loop at 60
              refine loopW (nL := 7) (S := Unit) (B := k) (I := fun i u => True) (lv := fun i u => [(0, .ref (a 0)), (1, .int (nI k)), (2, .int (nI z)), (3, .int w), (4, .int (nI (ySd z i))), (5, .int (nI (yFar n kd ag z i))), (6, .int (nI i))]) (wf := fun i u => XW cI a pl n st ik td nd nh bs ktd knd knh kbs pg kd ag pa bo dm dn hh hn kag kpa kbo kdm kdn khh khn (yAg n kd ag z i) ps ty) 0 () (Nat.zero_le _) (trivial) (by show lv_has ls 7 [(0, .ref (a 0)), (1, .int (nI k)), (2, .int (nI z)), (3, .int w), (4, .int (nI (ySd z 0))), (5, .int (nI (yFar n kd ag z 0))), (6, .int (nI 0))]; exact lv_sub hl [3, 4, 5, 6, 2, 1, 0] rfl) hP (hD.addr (XW_addr.trans XW_addr.symm)) hS (fun i u ls H locs hj hI hl hP hD hS ih => ?_)
              have hP : va_P D vwCl (XW cI a pl n st ik td nd nh bs ktd knd knh kbs pg kd ag pa bo dm dn hh hn kag kpa kbo kdm kdn khh khn (yAg n kd ag z i) ps ty) H := hP
              have hD : va_D A (XW cI a pl n st ik td nd nh bs ktd knd knh kbs pg kd ag pa bo dm dn hh hn kag kpa kbo kdm kdn khh khn (yAg n kd ag z i) ps ty) := hD
              have hl : lv_has ls 7 [(0, .ref (a 0)), (1, .int (nI k)), (2, .int (nI z)), (3, .int w), (4, .int (nI (ySd z i))), (5, .int (nI (yFar n kd ag z i))), (6, .int (nI i))] := hl
              have ih_60 := ih
              refine lv_iload hx hb dX2_years_60 (lv_at hl 6 rfl) ?_
              refine lv_iload_n hx hb dX2_years_62 rfl (lv_at hl 1 rfl) ?_
              refine nv_icmp_ge (tgt := 114) hx hb dX2_years_63 (by omega) (by omega) (by decide) (fun c_63 => ?_) (fun c_63 => ?_)
              · skip
                refine lv_iload_n hx hb dX2_years_114 rfl (lv_at hl 3 rfl) ?_
                refine lv_if_ne (tgt := 121) hx hb dX2_years_115 (by decide) (fun (c_115 : ¬ w = nI 0) => ?_) (fun (c_115 : w = nI 0) => ?_)
                · skip
                  refine lv_iload_n hx hb dX2_years_121 rfl (lv_at hl 3 rfl) ?_
                  refine lv_iconst (v := (nI 1)) hx hb dX2_years_122 (by decide) ?_
                  refine lv_icmp_ne (tgt := 137) hx hb dX2_years_123 (by decide) (fun c_123 => ?_) (fun c_123 => ?_)
                  · skip
                    refine lv_iload hx hb dX2_years_137 (lv_at hl 4 rfl) ?_
                    subst hAe
                    exact wr_i (w1 := fun (u : (Nat → Int32)) => XW cI a pl n st ik td nd nh bs ktd knd knh kbs pg kd ag pa bo dm dn hh hn kag kpa kbo kdm kdn khh khn u ps ty) hx hb hr hlocks hS (yAg n kd ag z i) hP dX2_years_139 (by rw [yrF_ok ⟨Int32.not_lt.mp c_2, Int32.not_lt.mp c_8⟩ k2 z1 ⟨Int32.not_lt.mp c_16, c_21⟩, if_neg c_31]; unfold yrN; rw [if_neg c_115, if_neg c_123, show i = k by omega])
                  · skip
                    refine lv_aload_n hx hb dX2_years_126 rfl (lv_at hl 0 rfl) ?_
                    refine lv_aload_n hx hb dX2_years_127 rfl (lv_at hl 0 rfl) ?_
                    refine va_get (D := D) (ci := 2) (v := .ref (a 35)) (C := RX2) (T := TX2) (N := 11) hx hb hg us_X2 hown hK.1 hP 0 XW_g0 rfl 8 (by decide) (hg _ gm_74) (fun _ h9 => h9) rfl dX2_years_128 ?_
                    have hP_4 : va_P D vwCl [(a 0, .inr (2, [.ref (a 1), .int (nI pl), .int (nI n), .int (nI st), .ref (a 3), .ref (a 5), .ref (a 20), .int ik, .ref (a 35), .ref (a 37), .ref (a 39)])), (a 3, .inr (1, [.ref (a 4)])), (a 4, .inl (cI, 6, .inl kd)), (a 35, .inr (1, [.ref (a 36)])), (a 36, .inl (cI, 6, .inl (yAg n kd ag z i)))] _ := P_s5 hP XW_g0 XW_g3 XW_g4 XW_g35 XW_g36
                    refine rdV (As := [.ref (a 35)]) (rest := []) hx hb hml hown hg (c_X2_allNumbers l D cI cB aS (a 0) (a 3) (a 4) (a 35) (a 36) n ([.ref (a 1), .int (nI pl), .int (nI n), .int (nI st), .ref (a 3), .ref (a 5), .ref (a 20), .int ik, .ref (a 35), .ref (a 37), .ref (a 39)]) kd (yAg n kd ag z i) rfl rfl (by first | assumption | omega)) gm_217 vf_X2_allNumbers ⟨Nat.le_of_ble_eq_true rfl, Nat.le_of_ble_eq_true rfl⟩ ⟨rfl, rfl⟩ ⟨Nat.zero_le _, Nat.zero_le _⟩ (RP.preV hK hP_4 (q0 := 0) (ci := 2) rfl rfl) rfl hl.1 rfl (Nat.le_of_ble_eq_true rfl) dX2_years_131 ?_
                    refine lv_goto (tgt := 139) hx hb dX2_years_134 (by decide) ?_
                    subst hAe
                    exact wr_i (w1 := fun (u : (Nat → Int32)) => XW cI a pl n st ik td nd nh bs ktd knd knh kbs pg kd ag pa bo dm dn hh hn kag kpa kbo kdm kdn khh khn u ps ty) hx hb hr hlocks hS (yAg n kd ag z i) hP dX2_years_139 (by rw [yrF_ok ⟨Int32.not_lt.mp c_2, Int32.not_lt.mp c_8⟩ k2 z1 ⟨Int32.not_lt.mp c_16, c_21⟩, if_neg c_31]; unfold yrN; rw [if_neg c_115, if_pos c_123, show i = k by omega])
                · skip
                  refine lv_iload hx hb dX2_years_118 (lv_at hl 5 rfl) ?_
                  subst hAe
                  exact wr_i (w1 := fun (u : (Nat → Int32)) => XW cI a pl n st ik td nd nh bs ktd knd knh kbs pg kd ag pa bo dm dn hh hn kag kpa kbo kdm kdn khh khn u ps ty) hx hb hr hlocks hS (yAg n kd ag z i) hP dX2_years_120 (by rw [yrF_ok ⟨Int32.not_lt.mp c_2, Int32.not_lt.mp c_8⟩ k2 z1 ⟨Int32.not_lt.mp c_16, c_21⟩, if_neg c_31]; unfold yrN; rw [if_pos c_115, show i = k by omega])
              · skip
                refine lv_iload hx hb dX2_years_66 (lv_at hl 4 rfl) ?_
                refine rdS (As := [.int (nI (ySd z i))]) (rest := []) hx hb hml hown hg (c_X2_nextSeed l D cI cB aS (ySd z i) (ySd_lt z1)) gm_204 sf_X2_nextSeed ⟨Nat.le_of_ble_eq_true rfl, Nat.le_of_ble_eq_true rfl⟩ ⟨rfl, rfl⟩ ⟨Nat.zero_le _, Nat.zero_le _⟩ (RP.preS hK (fun k q h => by simp at h)) rfl hl.1 rfl (Nat.le_of_ble_eq_true rfl) dX2_years_68 ?_
                refine lv_istore (lv' := [(4, .int (nI (sdF (ySd z i)))), (0, .ref (a 0)), (1, .int (nI k)), (2, .int (nI z)), (3, .int w), (5, .int (nI (yFar n kd ag z i))), (6, .int (nI i))]) hx hb dX2_years_71 hl (by decide) rfl (fun ls hl => ?_)
                refine lv_aload_n hx hb dX2_years_73 rfl (lv_at hl 1 rfl) ?_
                refine lv_aload_n hx hb dX2_years_74 rfl (lv_at hl 1 rfl) ?_
                refine va_get (D := D) (ci := 2) (v := .ref (a 35)) (C := RX2) (T := TX2) (N := 11) hx hb hg us_X2 hown hK.1 hP 0 XW_g0 rfl 8 (by decide) (hg _ gm_74) (fun _ h9 => h9) rfl dX2_years_75 ?_
                refine lv_aload_n hx hb dX2_years_78 rfl (lv_at hl 1 rfl) ?_
                refine lv_iload hx hb dX2_years_79 (lv_at hl 0 rfl) ?_
                refine rdV (As := [.int (nI (sdF (ySd z i)))]) (rest := [.ref (a 35), .ref (a 0)]) hx hb hml hown hg (c_X2_drawnHouse l D cI cB aS _ pl n st ik td nd nh bs ktd knd knh kbs pg kd ag pa bo dm dn hh hn kag kpa kbo kdm kdn khh khn (yAg n kd ag z i) ps ty (sdF (ySd z i)) (by first | assumption | omega) (by omega) (sdF_lt _)) gm_210 vf_X2_drawnHouse ⟨Nat.le_of_ble_eq_true rfl, Nat.le_of_ble_eq_true rfl⟩ ⟨rfl, rfl⟩ ⟨Nat.zero_le _, Nat.zero_le _⟩ (RP.preV hK hP (q0 := 0) (ci := 2) XW_g0 rfl) rfl hl.1 rfl (Nat.le_of_ble_eq_true rfl) dX2_years_81 ?_
                have hP_5 : va_P D vwCl [(a 0, .inr (2, [.ref (a 1), .int (nI pl), .int (nI n), .int (nI st), .ref (a 3), .ref (a 5), .ref (a 20), .int ik, .ref (a 35), .ref (a 37), .ref (a 39)])), (a 3, .inr (1, [.ref (a 4)])), (a 4, .inl (cI, 6, .inl kd)), (a 35, .inr (1, [.ref (a 36)])), (a 36, .inl (cI, 6, .inl (yAg n kd ag z i)))] _ := P_s5 hP XW_g0 XW_g3 XW_g4 XW_g35 XW_g36
                have hC_6 : ([0, 3, 4, 35, 36] : List Nat).map (fun q_ => (XW cI a pl n st ik td nd nh bs ktd knd knh kbs pg kd ag pa bo dm dn hh hn kag kpa kbo kdm kdn khh khn (yAg n kd ag z i) ps ty : va_W)[q_]?) = List.map some ([(a 0, .inr (2, [.ref (a 1), .int (nI pl), .int (nI n), .int (nI st), .ref (a 3), .ref (a 5), .ref (a 20), .int ik, .ref (a 35), .ref (a 37), .ref (a 39)])), (a 3, .inr (1, [.ref (a 4)])), (a 4, .inl (cI, 6, .inl kd)), (a 35, .inr (1, [.ref (a 36)])), (a 36, .inl (cI, 6, .inl (yAg n kd ag z i)))] : va_W) := M_s5 XW_g0 XW_g3 XW_g4 XW_g35 XW_g36
                have hDc_6 : va_D (fun _ => True) [(a 0, .inr (2, [.ref (a 1), .int (nI pl), .int (nI n), .int (nI st), .ref (a 3), .ref (a 5), .ref (a 20), .int ik, .ref (a 35), .ref (a 37), .ref (a 39)])), (a 3, .inr (1, [.ref (a 4)])), (a 4, .inl (cI, 6, .inl kd)), (a 35, .inr (1, [.ref (a 36)])), (a 36, .inl (cI, 6, .inl (yAg n kd ag z i)))] := (hD.sub (ws' := [(a 0, .inr (2, [.ref (a 1), .int (nI pl), .int (nI n), .int (nI st), .ref (a 3), .ref (a 5), .ref (a 20), .int ik, .ref (a 35), .ref (a 37), .ref (a 39)])), (a 3, .inr (1, [.ref (a 4)])), (a 4, .inl (cI, 6, .inl kd)), (a 35, .inr (1, [.ref (a 36)])), (a 36, .inl (cI, 6, .inl (yAg n kd ag z i)))]) [0, 3, 4, 35, 36] (by decide) hC_6).weaken (fun _ _ _ _ => trivial)
                refine wrVv (As := [.ref (a 35), .int (nI (drF n (sdF (ySd z i))))]) (rest := []) hx hb hml hown hg (c_X2_bearIfMayBe l D cI cB aS (a 0) (a 3) (a 4) (a 35) (a 36) n ([.ref (a 1), .int (nI pl), .int (nI n), .int (nI st), .ref (a 3), .ref (a 5), .ref (a 20), .int ik, .ref (a 35), .ref (a 37), .ref (a 39)]) kd (yAg n kd ag z i) (drF n (sdF (ySd z i))) hDc_6 rfl rfl (drF_lt (by omega)) (by first | assumption | omega)) gm_214 vf_X2_bearIfMayBe ⟨Nat.le_of_ble_eq_true rfl, Nat.le_of_ble_eq_true rfl⟩ ⟨rfl, rfl⟩ ⟨Nat.zero_le _, Nat.zero_le _⟩ (RP.preV hK hP_5 (q0 := 0) (ci := 2) rfl rfl) rfl hl.1 rfl (Nat.le_of_ble_eq_true rfl) dX2_years_84 hS (inW_sub hD [0, 3, 4, 35, 36] hC_6) (fun u_7 H1 locs hpo_7 hP1 hk1 hS => ?_)
                have hP : va_P D vwCl (XW cI a pl n st ik td nd nh bs ktd knd knh kbs pg kd ag pa bo dm dn hh hn kag kpa kbo kdm kdn khh khn (yB n kd (yAg n kd ag z i) (drF n (sdF (ySd z i)))) ps ty) H1 := P_eq (wjoin (wc := [(a 0, .inr (2, [.ref (a 1), .int (nI pl), .int (nI n), .int (nI st), .ref (a 3), .ref (a 5), .ref (a 20), .int ik, .ref (a 35), .ref (a 37), .ref (a 39)])), (a 3, .inr (1, [.ref (a 4)])), (a 4, .inl (cI, 6, .inl kd)), (a 35, .inr (1, [.ref (a 36)])), (a 36, .inl (cI, 6, .inl (yAg n kd ag z i)))]) (w1 := [(a 0, .inr (2, [.ref (a 1), .int (nI pl), .int (nI n), .int (nI st), .ref (a 3), .ref (a 5), .ref (a 20), .int ik, .ref (a 35), .ref (a 37), .ref (a 39)])), (a 3, .inr (1, [.ref (a 4)])), (a 4, .inl (cI, 6, .inl kd)), (a 35, .inr (1, [.ref (a 36)])), (a 36, .inl (cI, 6, .inl (yB n kd (yAg n kd ag z i) (drF n (sdF (ySd z i))))))]) hP hD [0, 3, 4, 35, 36] hC_6 rfl hP1 hk1) XW_wsets_12
                have hD : va_D A (XW cI a pl n st ik td nd nh bs ktd knd knh kbs pg kd ag pa bo dm dn hh hn kag kpa kbo kdm kdn khh khn (yB n kd (yAg n kd ag z i) (drF n (sdF (ySd z i)))) ps ty) := hD.addr (XW_addr.trans XW_addr.symm)
                clear hP1 hk1
                generalize H1 = H at hP hS ⊢
                refine lv_iload hx hb dX2_years_87 (lv_at hl 5 rfl) ?_
                refine lv_aload_n hx hb dX2_years_89 rfl (lv_at hl 1 rfl) ?_
                refine lv_aload_n hx hb dX2_years_90 rfl (lv_at hl 1 rfl) ?_
                refine va_get (D := D) (ci := 2) (v := .ref (a 35)) (C := RX2) (T := TX2) (N := 11) hx hb hg us_X2 hown hK.1 hP 0 XW_g0 rfl 8 (by decide) (hg _ gm_74) (fun _ h9 => h9) rfl dX2_years_91 ?_
                have hP_8 : va_P D vwCl [(a 0, .inr (2, [.ref (a 1), .int (nI pl), .int (nI n), .int (nI st), .ref (a 3), .ref (a 5), .ref (a 20), .int ik, .ref (a 35), .ref (a 37), .ref (a 39)])), (a 3, .inr (1, [.ref (a 4)])), (a 4, .inl (cI, 6, .inl kd)), (a 35, .inr (1, [.ref (a 36)])), (a 36, .inl (cI, 6, .inl (yB n kd (yAg n kd ag z i) (drF n (sdF (ySd z i))))))] _ := P_s5 hP XW_g0 XW_g3 XW_g4 XW_g35 XW_g36
                refine rdV (As := [.ref (a 35)]) (rest := [.int (nI (yFar n kd ag z i))]) hx hb hml hown hg (c_X2_lengthOfWalk l D cI cB aS (a 0) (a 3) (a 4) (a 35) (a 36) n ([.ref (a 1), .int (nI pl), .int (nI n), .int (nI st), .ref (a 3), .ref (a 5), .ref (a 20), .int ik, .ref (a 35), .ref (a 37), .ref (a 39)]) kd (yB n kd (yAg n kd ag z i) (drF n (sdF (ySd z i)))) rfl rfl (by first | assumption | omega)) gm_175 vf_X2_lengthOfWalk ⟨Nat.le_of_ble_eq_true rfl, Nat.le_of_ble_eq_true rfl⟩ ⟨rfl, rfl⟩ ⟨Nat.zero_le _, Nat.zero_le _⟩ (RP.preV hK hP_8 (q0 := 0) (ci := 2) rfl rfl) rfl hl.1 rfl (Nat.le_of_ble_eq_true rfl) dX2_years_94 ?_
                refine nv_iadd hx hb dX2_years_97 ?_
                refine lv_istore (lv' := [(5, .int (nI (yFar n kd ag z i + (wkF n (nmF kd (yB n kd (yAg n kd ag z i) (drF n (sdF (ySd z i))))) n)))), (4, .int (nI (sdF (ySd z i)))), (0, .ref (a 0)), (1, .int (nI k)), (2, .int (nI z)), (3, .int w), (6, .int (nI i))]) hx hb dX2_years_98 hl (by decide) rfl (fun ls hl => ?_)
                refine lv_aload_n hx hb dX2_years_100 rfl (lv_at hl 2 rfl) ?_
                refine lv_aload_n hx hb dX2_years_101 rfl (lv_at hl 2 rfl) ?_
                refine va_get (D := D) (ci := 2) (v := .ref (a 35)) (C := RX2) (T := TX2) (N := 11) hx hb hg us_X2 hown hK.1 hP 0 XW_g0 rfl 8 (by decide) (hg _ gm_74) (fun _ h9 => h9) rfl dX2_years_102 ?_
                have hP_9 : va_P D vwCl [(a 0, .inr (2, [.ref (a 1), .int (nI pl), .int (nI n), .int (nI st), .ref (a 3), .ref (a 5), .ref (a 20), .int ik, .ref (a 35), .ref (a 37), .ref (a 39)])), (a 3, .inr (1, [.ref (a 4)])), (a 4, .inl (cI, 6, .inl kd)), (a 35, .inr (1, [.ref (a 36)])), (a 36, .inl (cI, 6, .inl (yB n kd (yAg n kd ag z i) (drF n (sdF (ySd z i))))))] _ := P_s5 hP XW_g0 XW_g3 XW_g4 XW_g35 XW_g36
                have hC_10 : ([0, 3, 4, 35, 36] : List Nat).map (fun q_ => (XW cI a pl n st ik td nd nh bs ktd knd knh kbs pg kd ag pa bo dm dn hh hn kag kpa kbo kdm kdn khh khn (yB n kd (yAg n kd ag z i) (drF n (sdF (ySd z i)))) ps ty : va_W)[q_]?) = List.map some ([(a 0, .inr (2, [.ref (a 1), .int (nI pl), .int (nI n), .int (nI st), .ref (a 3), .ref (a 5), .ref (a 20), .int ik, .ref (a 35), .ref (a 37), .ref (a 39)])), (a 3, .inr (1, [.ref (a 4)])), (a 4, .inl (cI, 6, .inl kd)), (a 35, .inr (1, [.ref (a 36)])), (a 36, .inl (cI, 6, .inl (yB n kd (yAg n kd ag z i) (drF n (sdF (ySd z i))))))] : va_W) := M_s5 XW_g0 XW_g3 XW_g4 XW_g35 XW_g36
                have hDc_10 : va_D (fun _ => True) [(a 0, .inr (2, [.ref (a 1), .int (nI pl), .int (nI n), .int (nI st), .ref (a 3), .ref (a 5), .ref (a 20), .int ik, .ref (a 35), .ref (a 37), .ref (a 39)])), (a 3, .inr (1, [.ref (a 4)])), (a 4, .inl (cI, 6, .inl kd)), (a 35, .inr (1, [.ref (a 36)])), (a 36, .inl (cI, 6, .inl (yB n kd (yAg n kd ag z i) (drF n (sdF (ySd z i))))))] := (hD.sub (ws' := [(a 0, .inr (2, [.ref (a 1), .int (nI pl), .int (nI n), .int (nI st), .ref (a 3), .ref (a 5), .ref (a 20), .int ik, .ref (a 35), .ref (a 37), .ref (a 39)])), (a 3, .inr (1, [.ref (a 4)])), (a 4, .inl (cI, 6, .inl kd)), (a 35, .inr (1, [.ref (a 36)])), (a 36, .inl (cI, 6, .inl (yB n kd (yAg n kd ag z i) (drF n (sdF (ySd z i))))))]) [0, 3, 4, 35, 36] (by decide) hC_10).weaken (fun _ _ _ _ => trivial)
                refine wrVv (As := [.ref (a 35)]) (rest := []) hx hb hml hown hg (c_X2_growOlder l D cI cB aS (a 0) (a 3) (a 4) (a 35) (a 36) n ([.ref (a 1), .int (nI pl), .int (nI n), .int (nI st), .ref (a 3), .ref (a 5), .ref (a 20), .int ik, .ref (a 35), .ref (a 37), .ref (a 39)]) kd (yB n kd (yAg n kd ag z i) (drF n (sdF (ySd z i)))) hDc_10 rfl rfl (by first | assumption | omega)) gm_154 vf_X2_growOlder ⟨Nat.le_of_ble_eq_true rfl, Nat.le_of_ble_eq_true rfl⟩ ⟨rfl, rfl⟩ ⟨Nat.zero_le _, Nat.zero_le _⟩ (RP.preV hK hP_9 (q0 := 0) (ci := 2) rfl rfl) rfl hl.1 rfl (Nat.le_of_ble_eq_true rfl) dX2_years_105 hS (inW_sub hD [0, 3, 4, 35, 36] hC_10) (fun u_11 H1 locs hpo_11 hP1 hk1 hS => ?_)
                have hP : va_P D vwCl (XW cI a pl n st ik td nd nh bs ktd knd knh kbs pg kd ag pa bo dm dn hh hn kag kpa kbo kdm kdn khh khn (groF kd (yB n kd (yAg n kd ag z i) (drF n (sdF (ySd z i)))) n) ps ty) H1 := P_eq (wjoin (wc := [(a 0, .inr (2, [.ref (a 1), .int (nI pl), .int (nI n), .int (nI st), .ref (a 3), .ref (a 5), .ref (a 20), .int ik, .ref (a 35), .ref (a 37), .ref (a 39)])), (a 3, .inr (1, [.ref (a 4)])), (a 4, .inl (cI, 6, .inl kd)), (a 35, .inr (1, [.ref (a 36)])), (a 36, .inl (cI, 6, .inl (yB n kd (yAg n kd ag z i) (drF n (sdF (ySd z i))))))]) (w1 := [(a 0, .inr (2, [.ref (a 1), .int (nI pl), .int (nI n), .int (nI st), .ref (a 3), .ref (a 5), .ref (a 20), .int ik, .ref (a 35), .ref (a 37), .ref (a 39)])), (a 3, .inr (1, [.ref (a 4)])), (a 4, .inl (cI, 6, .inl kd)), (a 35, .inr (1, [.ref (a 36)])), (a 36, .inl (cI, 6, .inl (groF kd (yB n kd (yAg n kd ag z i) (drF n (sdF (ySd z i)))) n)))]) hP hD [0, 3, 4, 35, 36] hC_10 rfl hP1 hk1) XW_wsets_12
                have hD : va_D A (XW cI a pl n st ik td nd nh bs ktd knd knh kbs pg kd ag pa bo dm dn hh hn kag kpa kbo kdm kdn khh khn (groF kd (yB n kd (yAg n kd ag z i) (drF n (sdF (ySd z i)))) n) ps ty) := hD.addr (XW_addr.trans XW_addr.symm)
                clear hP1 hk1
                generalize H1 = H at hP hS ⊢
                refine lv_iinc (v := (nI (i + 1))) (lv' := [(6, .int (nI (i + 1))), (5, .int (nI (yFar n kd ag z i + (wkF n (nmF kd (yB n kd (yAg n kd ag z i) (drF n (sdF (ySd z i))))) n)))), (4, .int (nI (sdF (ySd z i)))), (0, .ref (a 0)), (1, .int (nI k)), (2, .int (nI z)), (3, .int w)]) hx hb dX2_years_108 hl (k := 6) rfl (nI_i1 _) (by decide) rfl (fun ls hl => ?_)
                refine lv_goto (tgt := 60) hx hb dX2_years_111 (by decide) ?_
                exact ih_60 () _ _ _ (by omega) (trivial) (by show lv_has ls 7 [(0, .ref (a 0)), (1, .int (nI k)), (2, .int (nI z)), (3, .int w), (4, .int (nI (ySd z (i + 1)))), (5, .int (nI (yFar n kd ag z (i + 1)))), (6, .int (nI (i + 1)))]; rw [show (ySd z (i + 1)) = sdF (ySd z i) from rfl, show (yFar n kd ag z (i + 1)) = yFar n kd ag z i + (wkF n (nmF kd (yB n kd (yAg n kd ag z i) (drF n (sdF (ySd z i))))) n) from rfl]; exact lv_sub hl [3, 4, 5, 6, 2, 1, 0] rfl) hP (hD.addr (XW_addr.trans XW_addr.symm)) hS
            · skip
              refine lv_bipush (v := (-103)) hx hb dX2_years_34 (by decide) ?_
              subst hAe
              exact wr_i (w1 := fun (u : (Nat → Int32)) => XW cI a pl n st ik td nd nh bs ktd knd knh kbs pg kd ag pa bo dm dn hh hn kag kpa kbo kdm kdn khh khn u ps ty) hx hb hr hlocks hS wb hP dX2_years_36 (by rw [yrF_ok ⟨Int32.not_lt.mp c_2, Int32.not_lt.mp c_8⟩ k2 z1 ⟨Int32.not_lt.mp c_16, c_21⟩, if_pos c_31])
          · skip
            refine lv_bipush (v := (-102)) hx hb dX2_years_24 (by decide) ?_
            subst hAe
            exact wr_i (w1 := fun (u : (Nat → Int32)) => XW cI a pl n st ik td nd nh bs ktd knd knh kbs pg kd ag pa bo dm dn hh hn kag kpa kbo kdm kdn khh khn u ps ty) hx hb hr hlocks hS wb hP dX2_years_26 ((if_neg (fun q => c_21 q.2.2.2)).symm)
