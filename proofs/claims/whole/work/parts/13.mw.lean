abbrev rm_X3_draw : Room := { frames := 0, cells := 0, slots := 0, locals := 0 }
theorem MW_set_15 {cI cB : ClassId} {b : Nat → Nat} {st n td nd nh pl : Nat} {bs : Int32} {kd ag bo pa dm dn hh hn pg sv : Nat → Int32} {sd : Int64} {ik : Int32} {ks ktd knd knh : Nat} {kbs : Int32} {kag kbo kpa kdm kdn khh khn : Nat → Int32} {hf : Int64} {z0 : Int64} : List.set (MW cI cB b st n td nd nh pl bs kd ag bo pa dm dn hh hn pg sv sd ik ks ktd knd knh kbs kag kbo kpa kdm kdn khh khn hf) 0 (b 0, .inr (3, List.set [.int (nI st), .int (nI n), .ref (b 1), .ref (b 2), .ref (b 3), .ref (b 4), .int (nI td), .int bs, .int (nI nd), .ref (b 5), .ref (b 6), .int (nI nh), .ref (b 7), .ref (b 8), .int (nI pl), .ref (b 9), .ref (b 10), .long sd, .int ik, .int (nI ks), .int (nI ktd), .int kbs, .int (nI knd), .int (nI knh), .ref (b 11), .ref (b 12), .ref (b 13), .ref (b 14), .ref (b 15), .ref (b 16), .ref (b 17), .long hf] 17 (.long z0))) = MW cI cB b st n td nd nh pl bs kd ag bo pa dm dn hh hn pg sv z0 ik ks ktd knd knh kbs kag kbo kpa kdm kdn khh khn hf := rfl
set_option maxRecDepth 100000 in
set_option maxHeartbeats 4000000 in
theorem c_X3_draw (l : Launch) (D : va_G) (cI cB : ClassId) (aS : Nat) (b : Nat → Nat) (st n td nd nh pl : Nat) (bs : Int32) (kd ag bo pa dm dn hh hn pg sv : Nat → Int32)  (ik : Int32) (ks ktd knd knh : Nat) (kbs : Int32) (kag kbo kpa kdm kdn khh khn : Nat → Int32) (hf : Int64) (d z : Nat) (hD0 : va_D (fun _ => True) (MW cI cB b st n td nd nh pl bs kd ag bo pa dm dn hh hn pg sv (lN z) ik ks ktd knd knh kbs kag kbo kpa kdm kdn khh khn hf)) (qd : 0 < d) (qd6 : d ≤ 6) : Met l yX3_draw (mw yX3_draw cX3_draw 2 (some .int)) rm_X3_draw (RP D cI cB aS (MW cI cB b st n td nd nh pl bs kd ag bo pa dm dn hh hn pg sv (lN z) ik ks ktd knd knh kbs kag kbo kpa kdm kdn khh khn hf) [.ref (b 0), .int (nI d)]) (wq mkI (MW cI cB b st n td nd nh pl bs kd ag bo pa dm dn hh hn pg sv (lN z) ik ks ktd knd knh kbs kag kbo kpa kdm kdn khh khn hf) (fun (_ : Unit) => MW cI cB b st n td nd nh pl bs kd ag bo pa dm dn hh hn pg sv (lN (sdF z)) ik ks ktd knd knh kbs kag kbo kpa kdm kdn khh khn hf) D (fun (r : Int32) (_ : Unit) => r = (nI (drF d (sdF z))))) 0 0 (inW (MW cI cB b st n td nd nh pl bs kd ag bo pa dm dn hh hn pg sv (lN z) ik ks ktd knd knh kbs kag kbo kpa kdm kdn khh khn hf)) := by
  refine met_of (by decide) (Nat.le_of_ble_eq_true rfl) ?_
  intro p e s m below meth c ls hx hb hr hml hown hg hlocks hin hK hP hl
  have hown : s.vm.findClass RX3 = some m.cls := hown
  have hl : lv_has ls 2 [(0, .ref (b 0)), (1, .int (nI d))] := hl
  have hD := hD0.here
  have hS0 : va_S (inW (MW cI cB b st n td nd nh pl bs kd ag bo pa dm dn hh hn pg sv (lN z) ik ks ktd knd knh kbs kag kbo kpa kdm kdn khh khn hf)) s.heap s.heap [] := va_S.rf
  obtain ⟨H, hH⟩ : ∃ H, H = s.heap := ⟨_, rfl⟩
  have hS : va_S (inW (MW cI cB b st n td nd nh pl bs kd ag bo pa dm dn hh hn pg sv (lN z) ik ks ktd knd knh kbs kag kbo kpa kdm kdn khh khn hf)) s.heap H [] := by rw [hH]; exact hS0
  clear hS0
  rw [← hH] at hP ⊢
  generalize hAe : inW (MW cI cB b st n td nd nh pl bs kd ag bo pa dm dn hh hn pg sv (lN z) ik ks ktd knd knh kbs kag kbo kpa kdm kdn khh khn hf) = A at hD hS ⊢
  refine lv_aload_n hx hb dX3_draw_0 rfl (lv_at hl 0 rfl) ?_
  refine lv_ldc2 hx hb hown (hg _ gm_642) dX3_draw_1 ?_
  refine lv_aload_n hx hb dX3_draw_4 rfl (lv_at hl 0 rfl) ?_
  refine va_get (D := D) (ci := 3) (v := .long (lN z)) (C := RX3) (T := TX3) (N := 32) hx hb hg us_X3 hown hK.1 hP 0 MW_g0 rfl 17 (by decide) (hg _ gm_418) (fun _ h9 => h9) rfl dX3_draw_5 ?_
  refine lv_lmul hx hb dX3_draw_8 ?_
  refine lv_ldc2 hx hb hown (hg _ gm_643) dX3_draw_9 ?_
  refine lv_ladd hx hb dX3_draw_12 ?_
  refine lv_ldc2 hx hb hown (hg _ gm_644) dX3_draw_13 ?_
  refine lv_land hx hb dX3_draw_16 ?_
  rw [show (((((1103515245 : Int64) * (lN z)) + (12345 : Int64)) &&& (2147483647 : Int64)) : Int64) = (lN (sdF z)) from sd_l z]
  refine va_put (D := D) (ci := 3) (v := .long (lN (sdF z))) (ty := .long) (C := RX3) (T := TX3) (N := 32) hx hb hg us_X3 tyX3 tyX3_ok nmX3 hown hK.1 hP hD hS 0 MW_g0 rfl 17 (by decide) (hg _ gm_418) (fun _ h9 => h9) rfl (by decide +kernel) rfl rfl (Nat.le_of_ble_eq_true rfl) dX3_draw_17 (fun H locs hP hD hS => ?_)
  have hP : va_P D vwCl (MW cI cB b st n td nd nh pl bs kd ag bo pa dm dn hh hn pg sv (lN (sdF z)) ik ks ktd knd knh kbs kag kbo kpa kdm kdn khh khn hf) H := P_eq hP MW_set_15
  have hD : va_D A (MW cI cB b st n td nd nh pl bs kd ag bo pa dm dn hh hn pg sv (lN (sdF z)) ik ks ktd knd knh kbs kag kbo kpa kdm kdn khh khn hf) := D_eq hD MW_set_15
  refine lv_aload_n hx hb dX3_draw_20 rfl (lv_at hl 0 rfl) ?_
  refine va_get (D := D) (ci := 3) (v := .long (lN (sdF z))) (C := RX3) (T := TX3) (N := 32) hx hb hg us_X3 hown hK.1 hP 0 MW_g0 rfl 17 (by decide) (hg _ gm_418) (fun _ h9 => h9) rfl dX3_draw_21 ?_
  refine lv_ldc2 hx hb hown (hg _ gm_645) dX3_draw_24 ?_
  refine lv_ldiv hx hb dX3_draw_27 (by decide) ?_
  refine lv_iload_n hx hb dX3_draw_28 rfl (lv_at hl 1 rfl) ?_
  refine lv_i2l (v := (nI d).toInt64) hx hb dX3_draw_29 rfl ?_
  refine lv_lrem hx hb dX3_draw_30 (l_ne0 d qd qd6) ?_
  refine lv_l2i (v := (((lN (sdF z)) / (65536 : Int64)) - ((lN (sdF z)) / (65536 : Int64)) / ((nI d).toInt64) * ((nI d).toInt64)).toInt32) hx hb dX3_draw_31 rfl ?_
  rw [show (((((lN (sdF z)) / (65536 : Int64)) - ((lN (sdF z)) / (65536 : Int64)) / ((nI d).toInt64) * ((nI d).toInt64)).toInt32) : Int32) = (nI (drF d (sdF z))) from dr_l (sdF_lt z) qd qd6]
  subst hAe
  exact wr_i (w1 := fun (_ : Unit) => MW cI cB b st n td nd nh pl bs kd ag bo pa dm dn hh hn pg sv (lN (sdF z)) ik ks ktd knd knh kbs kag kbo kpa kdm kdn khh khn hf) hx hb hr hlocks hS () hP dX3_draw_32 rfl
abbrev rm_X3_yearsNow : Room := { frames := 4, cells := 0, slots := 0, locals := 90 }
theorem vf_X3_draw : vfacts RX3 yX3_draw cX3_draw 2 (some .int) 1 := ⟨⟨rfl, by decide +kernel, by decide +kernel, by decide +kernel⟩, gm_640, gm_734, gm_5, gm_641⟩
set_option maxRecDepth 100000 in
set_option maxHeartbeats 4000000 in
theorem c_X3_yearsNow (l : Launch) (D : va_G) (cI cB : ClassId) (aS : Nat) (b : Nat → Nat) (st n td nd nh pl : Nat) (bs : Int32) (kd ag bo pa dm dn hh hn pg sv : Nat → Int32) (sd : Int64) (ik : Int32) (ks ktd knd knh : Nat) (kbs : Int32) (kag kbo kpa kdm kdn khh khn : Nat → Int32) (hf : Int64) (k z : Nat) (w : Int32) (hD0 : va_D (fun _ => True) (MW cI cB b st n td nd nh pl bs kd ag bo pa dm dn hh hn pg sv sd ik ks ktd knd knh kbs kag kbo kpa kdm kdn khh khn hf)) (hn6 : n ≤ 6) (qn : 0 < n) (qk : k ≤ 60) (qz : z < 2147483648) : Met l yX3_yearsNow (mw yX3_yearsNow cX3_yearsNow 7 (some .int)) rm_X3_yearsNow (RP D cI cB aS (MW cI cB b st n td nd nh pl bs kd ag bo pa dm dn hh hn pg sv sd ik ks ktd knd knh kbs kag kbo kpa kdm kdn khh khn hf) [.ref (b 0), .int (nI k), .int (nI z), .int w]) (wq mkI (MW cI cB b st n td nd nh pl bs kd ag bo pa dm dn hh hn pg sv sd ik ks ktd knd knh kbs kag kbo kpa kdm kdn khh khn hf) (fun (_ : Unit) => MW cI cB b st n td nd nh pl bs kd ag bo pa dm dn hh hn pg ag (lN (ySd z k)) ik ks ktd knd knh kbs kag kbo kpa kdm kdn khh khn hf) D (fun (r : Int32) (_ : Unit) => r = (yrN n kd ag k z w))) 0 0 (inW (MW cI cB b st n td nd nh pl bs kd ag bo pa dm dn hh hn pg sv sd ik ks ktd knd knh kbs kag kbo kpa kdm kdn khh khn hf)) := by
  refine met_of (by decide) (Nat.le_of_ble_eq_true rfl) ?_
  intro p e s m below meth c ls hx hb hr hml hown hg hlocks hin hK hP hl
  have hown : s.vm.findClass RX3 = some m.cls := hown
  have hl : lv_has ls 7 [(0, .ref (b 0)), (1, .int (nI k)), (2, .int (nI z)), (3, .int w)] := hl
  have hD := hD0.here
  have hS0 : va_S (inW (MW cI cB b st n td nd nh pl bs kd ag bo pa dm dn hh hn pg sv sd ik ks ktd knd knh kbs kag kbo kpa kdm kdn khh khn hf)) s.heap s.heap [] := va_S.rf
  obtain ⟨H, hH⟩ : ∃ H, H = s.heap := ⟨_, rfl⟩
  have hS : va_S (inW (MW cI cB b st n td nd nh pl bs kd ag bo pa dm dn hh hn pg sv sd ik ks ktd knd knh kbs kag kbo kpa kdm kdn khh khn hf)) s.heap H [] := by rw [hH]; exact hS0
  clear hS0
  rw [← hH] at hP ⊢
  generalize hAe : inW (MW cI cB b st n td nd nh pl bs kd ag bo pa dm dn hh hn pg sv sd ik ks ktd knd knh kbs kag kbo kpa kdm kdn khh khn hf) = A at hD hS ⊢
  refine lv_aload_n hx hb dX3_yearsNow_0 rfl (lv_at hl 0 rfl) ?_
  refine wrVv (As := []) (rest := []) hx hb hml hown hg (c_X3_save l D cI cB aS _ st n td nd nh pl bs kd ag bo pa dm dn hh hn pg sv sd ik ks ktd knd knh kbs kag kbo kpa kdm kdn khh khn hf (hD.weaken (fun _ _ _ _ => trivial))) gm_578 vf_X3_save ⟨Nat.le_of_ble_eq_true rfl, Nat.le_of_ble_eq_true rfl⟩ ⟨rfl, rfl⟩ ⟨Nat.zero_le _, Nat.zero_le _⟩ (RP.preV hK hP (q0 := 0) (ci := 3) MW_g0 rfl) rfl hl.1 rfl (Nat.le_of_ble_eq_true rfl) dX3_yearsNow_1 hS (inW_all hD) (fun u_1 H1 locs hpo_1 hP1 hk1 hS => ?_)
  have hP : va_P D vwCl (MW cI cB b st n td nd nh pl bs kd ag bo pa dm dn hh hn pg ag sd ik ks ktd knd knh kbs kag kbo kpa kdm kdn khh khn hf) H1 := hP1
  have hD : va_D A (MW cI cB b st n td nd nh pl bs kd ag bo pa dm dn hh hn pg ag sd ik ks ktd knd knh kbs kag kbo kpa kdm kdn khh khn hf) := hD.addr (MW_addr.trans MW_addr.symm)
  clear hP1 hk1
  generalize H1 = H at hP hS ⊢
  refine lv_aload_n hx hb dX3_yearsNow_4 rfl (lv_at hl 0 rfl) ?_
  refine lv_iload_n hx hb dX3_yearsNow_5 rfl (lv_at hl 2 rfl) ?_
  refine lv_i2l (v := (nI z).toInt64) hx hb dX3_yearsNow_6 rfl ?_
  rw [show (((nI z).toInt64) : Int64) = (lN z) from nI_l qz]
  refine va_put (D := D) (ci := 3) (v := .long (lN z)) (ty := .long) (C := RX3) (T := TX3) (N := 32) hx hb hg us_X3 tyX3 tyX3_ok nmX3 hown hK.1 hP hD hS 0 MW_g0 rfl 17 (by decide) (hg _ gm_418) (fun _ h9 => h9) rfl (by decide +kernel) rfl rfl (Nat.le_of_ble_eq_true rfl) dX3_yearsNow_7 (fun H locs hP hD hS => ?_)
  have hP : va_P D vwCl (MW cI cB b st n td nd nh pl bs kd ag bo pa dm dn hh hn pg ag (lN z) ik ks ktd knd knh kbs kag kbo kpa kdm kdn khh khn hf) H := P_eq hP MW_set_15
  have hD : va_D A (MW cI cB b st n td nd nh pl bs kd ag bo pa dm dn hh hn pg ag (lN z) ik ks ktd knd knh kbs kag kbo kpa kdm kdn khh khn hf) := D_eq hD MW_set_15
  refine lv_iconst (v := (nI 0)) hx hb dX3_yearsNow_10 (by decide) ?_
  refine lv_istore (lv' := [(4, .int (nI 0)), (0, .ref (b 0)), (1, .int (nI k)), (2, .int (nI z)), (3, .int w)]) hx hb dX3_yearsNow_11 hl (by decide) rfl (fun ls hl => ?_)
  refine lv_iconst (v := (nI 0)) hx hb dX3_yearsNow_13 (by decide) ?_
  refine lv_istore (lv' := [(5, .int (nI 0)), (4, .int (nI 0)), (0, .ref (b 0)), (1, .int (nI k)), (2, .int (nI z)), (3, .int w)]) hx hb dX3_yearsNow_14 hl (by decide) rfl (fun ls hl => ?_)
  -- loop at 16
  refine loopW (nL := 7) (S := Unit) (B := k) (I := fun i u => True) (lv := fun i u => [(0, .ref (b 0)), (1, .int (nI k)), (2, .int (nI z)), (3, .int w), (4, .int (nI (yFar n kd ag z i))), (5, .int (nI i))]) (wf := fun i u => MW cI cB b st n td nd nh pl bs kd (yAg n kd ag z i) bo pa dm dn hh hn pg ag (lN (ySd z i)) ik ks ktd knd knh kbs kag kbo kpa kdm kdn khh khn hf) 0 () (Nat.zero_le _) (trivial) (by show lv_has ls 7 [(0, .ref (b 0)), (1, .int (nI k)), (2, .int (nI z)), (3, .int w), (4, .int (nI (yFar n kd ag z 0))), (5, .int (nI 0))]; exact lv_sub hl [2, 3, 4, 5, 1, 0] rfl) hP (hD.addr (MW_addr.trans MW_addr.symm)) hS (fun i u ls H locs hj hI hl hP hD hS ih => ?_)
  have hP : va_P D vwCl (MW cI cB b st n td nd nh pl bs kd (yAg n kd ag z i) bo pa dm dn hh hn pg ag (lN (ySd z i)) ik ks ktd knd knh kbs kag kbo kpa kdm kdn khh khn hf) H := hP
  have hD : va_D A (MW cI cB b st n td nd nh pl bs kd (yAg n kd ag z i) bo pa dm dn hh hn pg ag (lN (ySd z i)) ik ks ktd knd knh kbs kag kbo kpa kdm kdn khh khn hf) := hD
  have hl : lv_has ls 7 [(0, .ref (b 0)), (1, .int (nI k)), (2, .int (nI z)), (3, .int w), (4, .int (nI (yFar n kd ag z i))), (5, .int (nI i))] := hl
  have ih_16 := ih
  refine lv_iload hx hb dX3_yearsNow_16 (lv_at hl 5 rfl) ?_
  refine lv_iload_n hx hb dX3_yearsNow_18 rfl (lv_at hl 1 rfl) ?_
  refine nv_icmp_ge (tgt := 66) hx hb dX3_yearsNow_19 (by omega) (by omega) (by decide) (fun c_19 => ?_) (fun c_19 => ?_)
  · skip
    refine lv_aload_n hx hb dX3_yearsNow_66 rfl (lv_at hl 0 rfl) ?_
    refine rdV (As := []) (rest := []) hx hb hml hown hg (c_X3_numbersAll l D cI cB aS _ st n td nd nh pl bs kd (yAg n kd ag z i) bo pa dm dn hh hn pg ag (lN (ySd z i)) ik ks ktd knd knh kbs kag kbo kpa kdm kdn khh khn hf (by first | assumption | omega)) gm_590 vf_X3_numbersAll ⟨Nat.le_of_ble_eq_true rfl, Nat.le_of_ble_eq_true rfl⟩ ⟨rfl, rfl⟩ ⟨Nat.zero_le _, Nat.zero_le _⟩ (RP.preV hK hP (q0 := 0) (ci := 3) MW_g0 rfl) rfl hl.1 rfl (Nat.le_of_ble_eq_true rfl) dX3_yearsNow_67 ?_
    refine lv_istore (lv' := [(5, .int (sm (nmF kd (yAg n kd ag z i)) n)), (0, .ref (b 0)), (1, .int (nI k)), (2, .int (nI z)), (3, .int w), (4, .int (nI (yFar n kd ag z i)))]) hx hb dX3_yearsNow_70 hl (by decide) rfl (fun ls hl => ?_)
    refine lv_aload_n hx hb dX3_yearsNow_72 rfl (lv_at hl 1 rfl) ?_
    refine wrVv (As := []) (rest := []) hx hb hml hown hg (c_X3_load l D cI cB aS _ st n td nd nh pl bs kd (yAg n kd ag z i) bo pa dm dn hh hn pg ag (lN (ySd z i)) ik ks ktd knd knh kbs kag kbo kpa kdm kdn khh khn hf (hD.weaken (fun _ _ _ _ => trivial))) gm_593 vf_X3_load ⟨Nat.le_of_ble_eq_true rfl, Nat.le_of_ble_eq_true rfl⟩ ⟨rfl, rfl⟩ ⟨Nat.zero_le _, Nat.zero_le _⟩ (RP.preV hK hP (q0 := 0) (ci := 3) MW_g0 rfl) rfl hl.1 rfl (Nat.le_of_ble_eq_true rfl) dX3_yearsNow_73 hS (inW_all hD) (fun u_2 H1 locs hpo_2 hP1 hk1 hS => ?_)
    have hP : va_P D vwCl (MW cI cB b st n td nd nh pl bs kd ag bo pa dm dn hh hn pg ag (lN (ySd z i)) ik ks ktd knd knh kbs kag kbo kpa kdm kdn khh khn hf) H1 := hP1
    have hD : va_D A (MW cI cB b st n td nd nh pl bs kd ag bo pa dm dn hh hn pg ag (lN (ySd z i)) ik ks ktd knd knh kbs kag kbo kpa kdm kdn khh khn hf) := hD.addr (MW_addr.trans MW_addr.symm)
    clear hP1 hk1
    generalize H1 = H at hP hS ⊢
    refine lv_iload_n hx hb dX3_yearsNow_76 rfl (lv_at hl 4 rfl) ?_
    refine lv_if_ne (tgt := 85) hx hb dX3_yearsNow_77 (by decide) (fun (c_77 : ¬ w = nI 0) => ?_) (fun (c_77 : w = nI 0) => ?_)
    · skip
      refine lv_iload_n hx hb dX3_yearsNow_85 rfl (lv_at hl 4 rfl) ?_
      refine lv_iconst (v := (nI 1)) hx hb dX3_yearsNow_86 (by decide) ?_
      refine lv_icmp_ne (tgt := 95) hx hb dX3_yearsNow_87 (by decide) (fun c_87 => ?_) (fun c_87 => ?_)
      · skip
        refine lv_aload_n hx hb dX3_yearsNow_95 rfl (lv_at hl 1 rfl) ?_
        refine va_get (D := D) (ci := 3) (v := .long (lN (ySd z i))) (C := RX3) (T := TX3) (N := 32) hx hb hg us_X3 hown hK.1 hP 0 MW_g0 rfl 17 (by decide) (hg _ gm_418) (fun _ h9 => h9) rfl dX3_yearsNow_96 ?_
        refine lv_l2i (v := (lN (ySd z i)).toInt32) hx hb dX3_yearsNow_99 rfl ?_
        rw [show (((lN (ySd z i)).toInt32) : Int32) = (nI (ySd z i)) from lN_i _]
        subst hAe
        exact wr_i (w1 := fun (_ : Unit) => MW cI cB b st n td nd nh pl bs kd ag bo pa dm dn hh hn pg ag (lN (ySd z k)) ik ks ktd knd knh kbs kag kbo kpa kdm kdn khh khn hf) hx hb hr hlocks hS () (by rw [show i = k by omega] at hP; exact hP) dX3_yearsNow_100 (by unfold yrN; rw [if_neg c_77, if_neg c_87, show i = k by omega])
      · skip
        refine lv_iload hx hb dX3_yearsNow_90 (lv_at hl 0 rfl) ?_
        refine lv_goto (tgt := 100) hx hb dX3_yearsNow_92 (by decide) ?_
        subst hAe
        exact wr_i (w1 := fun (_ : Unit) => MW cI cB b st n td nd nh pl bs kd ag bo pa dm dn hh hn pg ag (lN (ySd z k)) ik ks ktd knd knh kbs kag kbo kpa kdm kdn khh khn hf) hx hb hr hlocks hS () (by rw [show i = k by omega] at hP; exact hP) dX3_yearsNow_100 (by unfold yrN; rw [if_neg c_77, if_pos c_87, show i = k by omega])
    · skip
      refine lv_iload hx hb dX3_yearsNow_80 (lv_at hl 5 rfl) ?_
      refine lv_goto (tgt := 100) hx hb dX3_yearsNow_82 (by decide) ?_
      subst hAe
      exact wr_i (w1 := fun (_ : Unit) => MW cI cB b st n td nd nh pl bs kd ag bo pa dm dn hh hn pg ag (lN (ySd z k)) ik ks ktd knd knh kbs kag kbo kpa kdm kdn khh khn hf) hx hb hr hlocks hS () (by rw [show i = k by omega] at hP; exact hP) dX3_yearsNow_100 (by unfold yrN; rw [if_pos c_77, show i = k by omega])
  · skip
    refine lv_aload_n hx hb dX3_yearsNow_22 rfl (lv_at hl 0 rfl) ?_
    refine lv_aload_n hx hb dX3_yearsNow_23 rfl (lv_at hl 0 rfl) ?_
    refine va_get (D := D) (ci := 3) (v := .int (nI n)) (C := RX3) (T := TX3) (N := 32) hx hb hg us_X3 hown hK.1 hP 0 MW_g0 rfl 1 (by decide) (hg _ gm_402) (fun _ h9 => h9) rfl dX3_yearsNow_24 ?_
    refine wrVi (As := [.int (nI n)]) (rest := []) hx hb hml hown hg (c_X3_draw l D cI cB aS _ st n td nd nh pl bs kd (yAg n kd ag z i) bo pa dm dn hh hn pg ag ik ks ktd knd knh kbs kag kbo kpa kdm kdn khh khn hf n (ySd z i) (hD.weaken (fun _ _ _ _ => trivial)) (by first | assumption | omega) (by first | assumption | omega)) gm_639 vf_X3_draw ⟨Nat.le_of_ble_eq_true rfl, Nat.le_of_ble_eq_true rfl⟩ ⟨rfl, rfl⟩ ⟨Nat.zero_le _, Nat.zero_le _⟩ (RP.preV hK hP (q0 := 0) (ci := 3) MW_g0 rfl) rfl hl.1 rfl (Nat.le_of_ble_eq_true rfl) dX3_yearsNow_27 hS (inW_all hD) (fun r_3 u_3 H1 locs hpo_3 hP1 hk1 hS => ?_)
    have hP : va_P D vwCl (MW cI cB b st n td nd nh pl bs kd (yAg n kd ag z i) bo pa dm dn hh hn pg ag (lN (sdF (ySd z i))) ik ks ktd knd knh kbs kag kbo kpa kdm kdn khh khn hf) H1 := hP1
    have hD : va_D A (MW cI cB b st n td nd nh pl bs kd (yAg n kd ag z i) bo pa dm dn hh hn pg ag (lN (sdF (ySd z i))) ik ks ktd knd knh kbs kag kbo kpa kdm kdn khh khn hf) := hD.addr (MW_addr.trans MW_addr.symm)
    clear hP1 hk1
    generalize H1 = H at hP hS ⊢
    have hpo_3 : r_3 = (nI (drF n (sdF (ySd z i)))) := hpo_3
    subst hpo_3
    refine lv_istore (lv' := [(6, .int (nI (drF n (sdF (ySd z i))))), (0, .ref (b 0)), (1, .int (nI k)), (2, .int (nI z)), (3, .int w), (4, .int (nI (yFar n kd ag z i))), (5, .int (nI i))]) hx hb dX3_yearsNow_30 hl (by decide) rfl (fun ls hl => ?_)
    refine lv_aload_n hx hb dX3_yearsNow_32 rfl (lv_at hl 1 rfl) ?_
    refine lv_iload hx hb dX3_yearsNow_33 (lv_at hl 0 rfl) ?_
    refine rdV (As := [.int (nI (drF n (sdF (ySd z i))))]) (rest := []) hx hb hml hown hg (c_X3_mayBirth l D cI cB aS _ st n td nd nh pl bs kd (yAg n kd ag z i) bo pa dm dn hh hn pg ag (lN (sdF (ySd z i))) ik ks ktd knd knh kbs kag kbo kpa kdm kdn khh khn hf (drF n (sdF (ySd z i))) (by have := drF_lt (z := sdF (ySd z i)) qn; omega)) gm_529 vf_X3_mayBirth ⟨Nat.le_of_ble_eq_true rfl, Nat.le_of_ble_eq_true rfl⟩ ⟨rfl, rfl⟩ ⟨Nat.zero_le _, Nat.zero_le _⟩ (RP.preV hK hP (q0 := 0) (ci := 3) MW_g0 rfl) rfl hl.1 rfl (Nat.le_of_ble_eq_true rfl) dX3_yearsNow_35 ?_
    refine bv_if_eq (tgt := 47) hx hb dX3_yearsNow_38 (by decide) (fun c_38 => ?_) (fun c_38 => ?_)
    · skip
      have e_4 : (yAg n kd ag z i) = (yB n kd (yAg n kd ag z i) (drF n (ySd z (i + 1)))) := (if_neg c_38).symm
      rw [e_4] at hP hD
      have hP : va_P D vwCl (MW cI cB b st n td nd nh pl bs kd (yB n kd (yAg n kd ag z i) (drF n (ySd z (i + 1)))) bo pa dm dn hh hn pg ag (lN (sdF (ySd z i))) ik ks ktd knd knh kbs kag kbo kpa kdm kdn khh khn hf) H := hP
      have hD : va_D A (MW cI cB b st n td nd nh pl bs kd (yB n kd (yAg n kd ag z i) (drF n (ySd z (i + 1)))) bo pa dm dn hh hn pg ag (lN (sdF (ySd z i))) ik ks ktd knd knh kbs kag kbo kpa kdm kdn khh khn hf) := hD
      refine lv_iload hx hb dX3_yearsNow_47 (lv_at hl 5 rfl) ?_
      refine lv_aload_n hx hb dX3_yearsNow_49 rfl (lv_at hl 1 rfl) ?_
      refine rdV (As := []) (rest := [.int (nI (yFar n kd ag z i))]) hx hb hml hown hg (c_X3_walkNow l D cI cB aS _ st n td nd nh pl bs kd (yB n kd (yAg n kd ag z i) (drF n (ySd z (i + 1)))) bo pa dm dn hh hn pg ag (lN (sdF (ySd z i))) ik ks ktd knd knh kbs kag kbo kpa kdm kdn khh khn hf (by first | assumption | omega)) gm_560 vf_X3_walkNow ⟨Nat.le_of_ble_eq_true rfl, Nat.le_of_ble_eq_true rfl⟩ ⟨rfl, rfl⟩ ⟨Nat.zero_le _, Nat.zero_le _⟩ (RP.preV hK hP (q0 := 0) (ci := 3) MW_g0 rfl) rfl hl.1 rfl (Nat.le_of_ble_eq_true rfl) dX3_yearsNow_50 ?_
      refine nv_iadd hx hb dX3_yearsNow_53 ?_
      refine lv_istore (lv' := [(4, .int (nI (yFar n kd ag z i + (wkF n (nmF kd (yB n kd (yAg n kd ag z i) (drF n (ySd z (i + 1))))) n)))), (6, .int (nI (drF n (sdF (ySd z i))))), (0, .ref (b 0)), (1, .int (nI k)), (2, .int (nI z)), (3, .int w), (5, .int (nI i))]) hx hb dX3_yearsNow_54 hl (by decide) rfl (fun ls hl => ?_)
      refine lv_aload_n hx hb dX3_yearsNow_56 rfl (lv_at hl 2 rfl) ?_
      refine wrVv (As := []) (rest := []) hx hb hml hown hg (c_X3_ageMore l D cI cB aS _ st n td nd nh pl bs kd (yB n kd (yAg n kd ag z i) (drF n (ySd z (i + 1)))) bo pa dm dn hh hn pg ag (lN (sdF (ySd z i))) ik ks ktd knd knh kbs kag kbo kpa kdm kdn khh khn hf (hD.weaken (fun _ _ _ _ => trivial)) (by first | assumption | omega)) gm_542 vf_X3_ageMore ⟨Nat.le_of_ble_eq_true rfl, Nat.le_of_ble_eq_true rfl⟩ ⟨rfl, rfl⟩ ⟨Nat.zero_le _, Nat.zero_le _⟩ (RP.preV hK hP (q0 := 0) (ci := 3) MW_g0 rfl) rfl hl.1 rfl (Nat.le_of_ble_eq_true rfl) dX3_yearsNow_57 hS (inW_all hD) (fun u_5 H1 locs hpo_5 hP1 hk1 hS => ?_)
      have hP : va_P D vwCl (MW cI cB b st n td nd nh pl bs kd (groF kd (yB n kd (yAg n kd ag z i) (drF n (ySd z (i + 1)))) n) bo pa dm dn hh hn pg ag (lN (sdF (ySd z i))) ik ks ktd knd knh kbs kag kbo kpa kdm kdn khh khn hf) H1 := hP1
      have hD : va_D A (MW cI cB b st n td nd nh pl bs kd (groF kd (yB n kd (yAg n kd ag z i) (drF n (ySd z (i + 1)))) n) bo pa dm dn hh hn pg ag (lN (sdF (ySd z i))) ik ks ktd knd knh kbs kag kbo kpa kdm kdn khh khn hf) := hD.addr (MW_addr.trans MW_addr.symm)
      clear hP1 hk1
      generalize H1 = H at hP hS ⊢
      refine lv_iinc (v := (nI (i + 1))) (lv' := [(5, .int (nI (i + 1))), (4, .int (nI (yFar n kd ag z i + (wkF n (nmF kd (yB n kd (yAg n kd ag z i) (drF n (ySd z (i + 1))))) n)))), (6, .int (nI (drF n (sdF (ySd z i))))), (0, .ref (b 0)), (1, .int (nI k)), (2, .int (nI z)), (3, .int w)]) hx hb dX3_yearsNow_60 hl (k := 6) rfl (nI_i1 _) (by decide) rfl (fun ls hl => ?_)
      refine lv_goto (tgt := 16) hx hb dX3_yearsNow_63 (by decide) ?_
      exact ih_16 () _ _ _ (by omega) (trivial) (by show lv_has ls 7 [(0, .ref (b 0)), (1, .int (nI k)), (2, .int (nI z)), (3, .int w), (4, .int (nI (yFar n kd ag z (i + 1)))), (5, .int (nI (i + 1)))]; rw [show (yFar n kd ag z (i + 1)) = yFar n kd ag z i + (wkF n (nmF kd (yB n kd (yAg n kd ag z i) (drF n (ySd z (i + 1))))) n) from rfl]; exact lv_sub hl [3, 4, 5, 6, 1, 0] rfl) hP (hD.addr (MW_addr.trans MW_addr.symm)) hS
    · skip
      refine lv_aload_n hx hb dX3_yearsNow_41 rfl (lv_at hl 1 rfl) ?_
      refine lv_iload hx hb dX3_yearsNow_42 (lv_at hl 0 rfl) ?_
      refine wrVv (As := [.int (nI (drF n (sdF (ySd z i))))]) (rest := []) hx hb hml hown hg (c_X3_ageNone l D cI cB aS _ st n td nd nh pl bs kd (yAg n kd ag z i) bo pa dm dn hh hn pg ag (lN (sdF (ySd z i))) ik ks ktd knd knh kbs kag kbo kpa kdm kdn khh khn hf (drF n (sdF (ySd z i))) (hD.weaken (fun _ _ _ _ => trivial)) (drF_lt qn) (by first | assumption | omega)) gm_532 vf_X3_ageNone ⟨Nat.le_of_ble_eq_true rfl, Nat.le_of_ble_eq_true rfl⟩ ⟨rfl, rfl⟩ ⟨Nat.zero_le _, Nat.zero_le _⟩ (RP.preV hK hP (q0 := 0) (ci := 3) MW_g0 rfl) rfl hl.1 rfl (Nat.le_of_ble_eq_true rfl) dX3_yearsNow_44 hS (inW_all hD) (fun u_6 H1 locs hpo_6 hP1 hk1 hS => ?_)
      have hP : va_P D vwCl (MW cI cB b st n td nd nh pl bs kd (bearF n kd (yAg n kd ag z i) (drF n (sdF (ySd z i)))) bo pa dm dn hh hn pg ag (lN (sdF (ySd z i))) ik ks ktd knd knh kbs kag kbo kpa kdm kdn khh khn hf) H1 := hP1
      have hD : va_D A (MW cI cB b st n td nd nh pl bs kd (bearF n kd (yAg n kd ag z i) (drF n (sdF (ySd z i)))) bo pa dm dn hh hn pg ag (lN (sdF (ySd z i))) ik ks ktd knd knh kbs kag kbo kpa kdm kdn khh khn hf) := hD.addr (MW_addr.trans MW_addr.symm)
      clear hP1 hk1
      generalize H1 = H at hP hS ⊢
      have e_7 : bearF n kd (yAg n kd ag z i) (drF n (sdF (ySd z i))) = (yB n kd (yAg n kd ag z i) (drF n (ySd z (i + 1)))) := (if_pos c_38).symm
      rw [e_7] at hP hD
      have hP : va_P D vwCl (MW cI cB b st n td nd nh pl bs kd (yB n kd (yAg n kd ag z i) (drF n (ySd z (i + 1)))) bo pa dm dn hh hn pg ag (lN (sdF (ySd z i))) ik ks ktd knd knh kbs kag kbo kpa kdm kdn khh khn hf) H := hP
      have hD : va_D A (MW cI cB b st n td nd nh pl bs kd (yB n kd (yAg n kd ag z i) (drF n (ySd z (i + 1)))) bo pa dm dn hh hn pg ag (lN (sdF (ySd z i))) ik ks ktd knd knh kbs kag kbo kpa kdm kdn khh khn hf) := hD
      refine lv_iload hx hb dX3_yearsNow_47 (lv_at hl 5 rfl) ?_
      refine lv_aload_n hx hb dX3_yearsNow_49 rfl (lv_at hl 1 rfl) ?_
      refine rdV (As := []) (rest := [.int (nI (yFar n kd ag z i))]) hx hb hml hown hg (c_X3_walkNow l D cI cB aS _ st n td nd nh pl bs kd (yB n kd (yAg n kd ag z i) (drF n (ySd z (i + 1)))) bo pa dm dn hh hn pg ag (lN (sdF (ySd z i))) ik ks ktd knd knh kbs kag kbo kpa kdm kdn khh khn hf (by first | assumption | omega)) gm_560 vf_X3_walkNow ⟨Nat.le_of_ble_eq_true rfl, Nat.le_of_ble_eq_true rfl⟩ ⟨rfl, rfl⟩ ⟨Nat.zero_le _, Nat.zero_le _⟩ (RP.preV hK hP (q0 := 0) (ci := 3) MW_g0 rfl) rfl hl.1 rfl (Nat.le_of_ble_eq_true rfl) dX3_yearsNow_50 ?_
      refine nv_iadd hx hb dX3_yearsNow_53 ?_
      refine lv_istore (lv' := [(4, .int (nI (yFar n kd ag z i + (wkF n (nmF kd (yB n kd (yAg n kd ag z i) (drF n (ySd z (i + 1))))) n)))), (6, .int (nI (drF n (sdF (ySd z i))))), (0, .ref (b 0)), (1, .int (nI k)), (2, .int (nI z)), (3, .int w), (5, .int (nI i))]) hx hb dX3_yearsNow_54 hl (by decide) rfl (fun ls hl => ?_)
      refine lv_aload_n hx hb dX3_yearsNow_56 rfl (lv_at hl 2 rfl) ?_
      refine wrVv (As := []) (rest := []) hx hb hml hown hg (c_X3_ageMore l D cI cB aS _ st n td nd nh pl bs kd (yB n kd (yAg n kd ag z i) (drF n (ySd z (i + 1)))) bo pa dm dn hh hn pg ag (lN (sdF (ySd z i))) ik ks ktd knd knh kbs kag kbo kpa kdm kdn khh khn hf (hD.weaken (fun _ _ _ _ => trivial)) (by first | assumption | omega)) gm_542 vf_X3_ageMore ⟨Nat.le_of_ble_eq_true rfl, Nat.le_of_ble_eq_true rfl⟩ ⟨rfl, rfl⟩ ⟨Nat.zero_le _, Nat.zero_le _⟩ (RP.preV hK hP (q0 := 0) (ci := 3) MW_g0 rfl) rfl hl.1 rfl (Nat.le_of_ble_eq_true rfl) dX3_yearsNow_57 hS (inW_all hD) (fun u_8 H1 locs hpo_8 hP1 hk1 hS => ?_)
      have hP : va_P D vwCl (MW cI cB b st n td nd nh pl bs kd (groF kd (yB n kd (yAg n kd ag z i) (drF n (ySd z (i + 1)))) n) bo pa dm dn hh hn pg ag (lN (sdF (ySd z i))) ik ks ktd knd knh kbs kag kbo kpa kdm kdn khh khn hf) H1 := hP1
      have hD : va_D A (MW cI cB b st n td nd nh pl bs kd (groF kd (yB n kd (yAg n kd ag z i) (drF n (ySd z (i + 1)))) n) bo pa dm dn hh hn pg ag (lN (sdF (ySd z i))) ik ks ktd knd knh kbs kag kbo kpa kdm kdn khh khn hf) := hD.addr (MW_addr.trans MW_addr.symm)
      clear hP1 hk1
      generalize H1 = H at hP hS ⊢
      refine lv_iinc (v := (nI (i + 1))) (lv' := [(5, .int (nI (i + 1))), (4, .int (nI (yFar n kd ag z i + (wkF n (nmF kd (yB n kd (yAg n kd ag z i) (drF n (ySd z (i + 1))))) n)))), (6, .int (nI (drF n (sdF (ySd z i))))), (0, .ref (b 0)), (1, .int (nI k)), (2, .int (nI z)), (3, .int w)]) hx hb dX3_yearsNow_60 hl (k := 6) rfl (nI_i1 _) (by decide) rfl (fun ls hl => ?_)
      refine lv_goto (tgt := 16) hx hb dX3_yearsNow_63 (by decide) ?_
      exact ih_16 () _ _ _ (by omega) (trivial) (by show lv_has ls 7 [(0, .ref (b 0)), (1, .int (nI k)), (2, .int (nI z)), (3, .int w), (4, .int (nI (yFar n kd ag z (i + 1)))), (5, .int (nI (i + 1)))]; rw [show (yFar n kd ag z (i + 1)) = yFar n kd ag z i + (wkF n (nmF kd (yB n kd (yAg n kd ag z i) (drF n (ySd z (i + 1))))) n) from rfl]; exact lv_sub hl [3, 4, 5, 6, 1, 0] rfl) hP (hD.addr (MW_addr.trans MW_addr.symm)) hS
abbrev rm_X3_years : Room := { frames := 5, cells := 0, slots := 0, locals := 116 }
theorem vf_X3_yearsNow : vfacts RX3 yX3_yearsNow cX3_yearsNow 7 (some .int) 3 := ⟨⟨rfl, by decide +kernel, by decide +kernel, by decide +kernel⟩, gm_637, gm_733, gm_5, gm_638⟩
set_option maxRecDepth 100000 in
set_option maxHeartbeats 4000000 in
theorem c_X3_years (l : Launch) (D : va_G) (cI cB : ClassId) (aS : Nat) (b : Nat → Nat) (st n td nd nh pl : Nat) (bs : Int32) (kd ag bo pa dm dn hh hn pg sv : Nat → Int32) (sd : Int64) (ik : Int32) (ks ktd knd knh : Nat) (kbs : Int32) (kag kbo kpa kdm kdn khh khn : Nat → Int32) (hf : Int64) (x y w : Int32) (hD0 : va_D (fun _ => True) (MW cI cB b st n td nd nh pl bs kd ag bo pa dm dn hh hn pg sv sd ik ks ktd knd knh kbs kag kbo kpa kdm kdn khh khn hf)) (hn6 : n ≤ 6) : Met l yX3_years (mw yX3_years cX3_years 4 (some .int)) rm_X3_years (RP D cI cB aS (MW cI cB b st n td nd nh pl bs kd ag bo pa dm dn hh hn pg sv sd ik ks ktd knd knh kbs kag kbo kpa kdm kdn khh khn hf) [.ref (b 0), .int x, .int y, .int w]) (wq mkI (MW cI cB b st n td nd nh pl bs kd ag bo pa dm dn hh hn pg sv sd ik ks ktd knd knh kbs kag kbo kpa kdm kdn khh khn hf) (fun (u : (Nat → Int32) × Int64) => MW cI cB b st n td nd nh pl bs kd ag bo pa dm dn hh hn pg u.1 u.2 ik ks ktd knd knh kbs kag kbo kpa kdm kdn khh khn hf) D (fun (r : Int32) (_ : (Nat → Int32) × Int64) => r = yrF n kd ag x y w)) 0 0 (inW (MW cI cB b st n td nd nh pl bs kd ag bo pa dm dn hh hn pg sv sd ik ks ktd knd knh kbs kag kbo kpa kdm kdn khh khn hf)) := by
  refine met_of (by decide) (Nat.le_of_ble_eq_true rfl) ?_
  intro p e s m below meth c ls hx hb hr hml hown hg hlocks hin hK hP hl
  have hown : s.vm.findClass RX3 = some m.cls := hown
  have hl : lv_has ls 4 [(0, .ref (b 0)), (1, .int x), (2, .int y), (3, .int w)] := hl
  have hD := hD0.here
  have hS0 : va_S (inW (MW cI cB b st n td nd nh pl bs kd ag bo pa dm dn hh hn pg sv sd ik ks ktd knd knh kbs kag kbo kpa kdm kdn khh khn hf)) s.heap s.heap [] := va_S.rf
  obtain ⟨H, hH⟩ : ∃ H, H = s.heap := ⟨_, rfl⟩
  have hS : va_S (inW (MW cI cB b st n td nd nh pl bs kd ag bo pa dm dn hh hn pg sv sd ik ks ktd knd knh kbs kag kbo kpa kdm kdn khh khn hf)) s.heap H [] := by rw [hH]; exact hS0
  clear hS0
  rw [← hH] at hP ⊢
  generalize hAe : inW (MW cI cB b st n td nd nh pl bs kd ag bo pa dm dn hh hn pg sv sd ik ks ktd knd knh kbs kag kbo kpa kdm kdn khh khn hf) = A at hD hS ⊢
  refine lv_iload_n hx hb dX3_years_0 rfl (lv_at hl 1 rfl) ?_
  refine lv_iconst (v := (nI 1)) hx hb dX3_years_1 (by decide) ?_
  refine lv_bipush (v := (nI 60)) hx hb dX3_years_2 (by decide) ?_
  refine rdS (As := [.int x, .int (nI 1), .int (nI 60)]) (rest := []) hx hb hml hown hg (c_X3_within l D cI cB aS x (nI 1) (nI 60)) gm_469 sf_X3_within ⟨Nat.le_of_ble_eq_true rfl, Nat.le_of_ble_eq_true rfl⟩ ⟨rfl, rfl⟩ ⟨Nat.zero_le _, Nat.zero_le _⟩ (RP.preS hK (fun k q h => by simp at h)) rfl hl.1 rfl (Nat.le_of_ble_eq_true rfl) dX3_years_4 ?_
  refine bv_if_eq (tgt := 23) hx hb dX3_years_7 (by decide) (fun c_7 => ?_) (fun c_7 => ?_)
  · skip
    refine lv_bipush (v := (-102)) hx hb dX3_years_23 (by decide) ?_
    subst hAe
    exact wr_i (w1 := fun (u : (Nat → Int32) × Int64) => MW cI cB b st n td nd nh pl bs kd ag bo pa dm dn hh hn pg u.1 u.2 ik ks ktd knd knh kbs kag kbo kpa kdm kdn khh khn hf) hx hb hr hlocks hS (sv, sd) hP dX3_years_25 ((if_neg (fun q => c_7 q.1)).symm)
  · skip
    obtain ⟨k, k1, k2, ek⟩ := by_of c_7 (by decide) (by decide)
    subst ek
    refine lv_iload_n hx hb dX3_years_10 rfl (lv_at hl 2 rfl) ?_
    refine lv_if_lt (tgt := 23) hx hb dX3_years_11 (by decide) (fun c_11 => ?_) (fun c_11 => ?_)
    · skip
      refine lv_bipush (v := (-102)) hx hb dX3_years_23 (by decide) ?_
      subst hAe
      exact wr_i (w1 := fun (u : (Nat → Int32) × Int64) => MW cI cB b st n td nd nh pl bs kd ag bo pa dm dn hh hn pg u.1 u.2 ik ks ktd knd knh kbs kag kbo kpa kdm kdn khh khn hf) hx hb hr hlocks hS (sv, sd) hP dX3_years_25 ((if_neg (fun q => Int32.not_lt.mpr q.2.1 c_11)).symm)
    · skip
      obtain ⟨z, z1, ez⟩ := nI_of c_11
      subst ez
      refine lv_iload_n hx hb dX3_years_14 rfl (lv_at hl 3 rfl) ?_
      refine lv_iconst (v := (nI 0)) hx hb dX3_years_15 (by decide) ?_
      refine lv_iconst (v := (nI 2)) hx hb dX3_years_16 (by decide) ?_
      refine rdS (As := [.int w, .int (nI 0), .int (nI 2)]) (rest := []) hx hb hml hown hg (c_X3_within l D cI cB aS w (nI 0) (nI 2)) gm_469 sf_X3_within ⟨Nat.le_of_ble_eq_true rfl, Nat.le_of_ble_eq_true rfl⟩ ⟨rfl, rfl⟩ ⟨Nat.zero_le _, Nat.zero_le _⟩ (RP.preS hK (fun k q h => by simp at h)) rfl hl.1 rfl (Nat.le_of_ble_eq_true rfl) dX3_years_17 ?_
      refine bv_if_ne (tgt := 26) hx hb dX3_years_20 (by decide) (fun c_20 => ?_) (fun c_20 => ?_)
      · skip
        refine lv_aload_n hx hb dX3_years_26 rfl (lv_at hl 0 rfl) ?_
        refine va_get (D := D) (ci := 3) (v := .int (nI n)) (C := RX3) (T := TX3) (N := 32) hx hb hg us_X3 hown hK.1 hP 0 MW_g0 rfl 1 (by decide) (hg _ gm_402) (fun _ h9 => h9) rfl dX3_years_27 ?_
        refine nv_if_ne (tgt := 38) hx hb dX3_years_30 (by omega) (by decide) (fun c_30 => ?_) (fun c_30 => ?_)
        · skip
          refine lv_aload_n hx hb dX3_years_38 rfl (lv_at hl 0 rfl) ?_
          refine lv_iload_n hx hb dX3_years_39 rfl (lv_at hl 1 rfl) ?_
          refine lv_iload_n hx hb dX3_years_40 rfl (lv_at hl 2 rfl) ?_
          refine lv_iload_n hx hb dX3_years_41 rfl (lv_at hl 3 rfl) ?_
          refine wrVi (As := [.int (nI k), .int (nI z), .int w]) (rest := []) hx hb hml hown hg (c_X3_yearsNow l D cI cB aS _ st n td nd nh pl bs kd ag bo pa dm dn hh hn pg sv sd ik ks ktd knd knh kbs kag kbo kpa kdm kdn khh khn hf k z w (hD.weaken (fun _ _ _ _ => trivial)) (by first | assumption | omega) (by first | assumption | omega) (by first | assumption | omega) (by first | assumption | omega)) gm_636 vf_X3_yearsNow ⟨Nat.le_of_ble_eq_true rfl, Nat.le_of_ble_eq_true rfl⟩ ⟨rfl, rfl⟩ ⟨Nat.zero_le _, Nat.zero_le _⟩ (RP.preV hK hP (q0 := 0) (ci := 3) MW_g0 rfl) rfl hl.1 rfl (Nat.le_of_ble_eq_true rfl) dX3_years_42 hS (inW_all hD) (fun r_1 u_1 H1 locs hpo_1 hP1 hk1 hS => ?_)
          have hP : va_P D vwCl (MW cI cB b st n td nd nh pl bs kd ag bo pa dm dn hh hn pg ag (lN (ySd z k)) ik ks ktd knd knh kbs kag kbo kpa kdm kdn khh khn hf) H1 := hP1
          have hD : va_D A (MW cI cB b st n td nd nh pl bs kd ag bo pa dm dn hh hn pg ag (lN (ySd z k)) ik ks ktd knd knh kbs kag kbo kpa kdm kdn khh khn hf) := hD.addr (MW_addr.trans MW_addr.symm)
          clear hP1 hk1
          generalize H1 = H at hP hS ⊢
          have hpo_1 : r_1 = (yrN n kd ag k z w) := hpo_1
          subst hpo_1
          subst hAe
          exact wr_i (w1 := fun (u : (Nat → Int32) × Int64) => MW cI cB b st n td nd nh pl bs kd ag bo pa dm dn hh hn pg u.1 u.2 ik ks ktd knd knh kbs kag kbo kpa kdm kdn khh khn hf) hx hb hr hlocks hS (ag, lN (ySd z k)) hP dX3_years_45 (by rw [yrF_ok c_7 k2 z1 c_20, if_neg c_30])
        · skip
          refine lv_bipush (v := (-103)) hx hb dX3_years_33 (by decide) ?_
          refine lv_goto (tgt := 45) hx hb dX3_years_35 (by decide) ?_
          subst hAe
          exact wr_i (w1 := fun (u : (Nat → Int32) × Int64) => MW cI cB b st n td nd nh pl bs kd ag bo pa dm dn hh hn pg u.1 u.2 ik ks ktd knd knh kbs kag kbo kpa kdm kdn khh khn hf) hx hb hr hlocks hS (sv, sd) hP dX3_years_45 (by rw [yrF_ok c_7 k2 z1 c_20, if_pos c_30])
      · skip
        refine lv_bipush (v := (-102)) hx hb dX3_years_23 (by decide) ?_
        subst hAe
        exact wr_i (w1 := fun (u : (Nat → Int32) × Int64) => MW cI cB b st n td nd nh pl bs kd ag bo pa dm dn hh hn pg u.1 u.2 ik ks ktd knd knh kbs kag kbo kpa kdm kdn khh khn hf) hx hb hr hlocks hS (sv, sd) hP dX3_years_25 ((if_neg (fun q => c_20 q.2.2)).symm)
abbrev rm_X3_street : Room := { frames := 3, cells := 0, slots := 0, locals := 65 }
theorem MW_set_16 {cI cB : ClassId} {b : Nat → Nat} {st n td nd nh pl : Nat} {bs : Int32} {kd ag bo pa dm dn hh hn pg sv : Nat → Int32} {sd : Int64} {ik : Int32} {ks ktd knd knh : Nat} {kbs : Int32} {kag kbo kpa kdm kdn khh khn : Nat → Int32} {hf : Int64} {z0 : Nat} : List.set (MW cI cB b st n td nd nh pl bs kd ag bo pa dm dn hh hn pg sv sd ik ks ktd knd knh kbs kag kbo kpa kdm kdn khh khn hf) 0 (b 0, .inr (3, List.set [.int (nI st), .int (nI n), .ref (b 1), .ref (b 2), .ref (b 3), .ref (b 4), .int (nI td), .int bs, .int (nI nd), .ref (b 5), .ref (b 6), .int (nI nh), .ref (b 7), .ref (b 8), .int (nI pl), .ref (b 9), .ref (b 10), .long sd, .int ik, .int (nI ks), .int (nI ktd), .int kbs, .int (nI knd), .int (nI knh), .ref (b 11), .ref (b 12), .ref (b 13), .ref (b 14), .ref (b 15), .ref (b 16), .ref (b 17), .long hf] 1 (.int (nI z0)))) = MW cI cB b st z0 td nd nh pl bs kd ag bo pa dm dn hh hn pg sv sd ik ks ktd knd knh kbs kag kbo kpa kdm kdn khh khn hf := rfl
theorem MW_set_17 {cI cB : ClassId} {b : Nat → Nat} {st n td nd nh pl : Nat} {bs : Int32} {kd ag bo pa dm dn hh hn pg sv : Nat → Int32} {sd : Int64} {ik : Int32} {ks ktd knd knh : Nat} {kbs : Int32} {kag kbo kpa kdm kdn khh khn : Nat → Int32} {hf : Int64} {z0 : Nat} : List.set (MW cI cB b st n td nd nh pl bs kd ag bo pa dm dn hh hn pg sv sd ik ks ktd knd knh kbs kag kbo kpa kdm kdn khh khn hf) 0 (b 0, .inr (3, List.set [.int (nI st), .int (nI n), .ref (b 1), .ref (b 2), .ref (b 3), .ref (b 4), .int (nI td), .int bs, .int (nI nd), .ref (b 5), .ref (b 6), .int (nI nh), .ref (b 7), .ref (b 8), .int (nI pl), .ref (b 9), .ref (b 10), .long sd, .int ik, .int (nI ks), .int (nI ktd), .int kbs, .int (nI knd), .int (nI knh), .ref (b 11), .ref (b 12), .ref (b 13), .ref (b 14), .ref (b 15), .ref (b 16), .ref (b 17), .long hf] 0 (.int (nI z0)))) = MW cI cB b z0 n td nd nh pl bs kd ag bo pa dm dn hh hn pg sv sd ik ks ktd knd knh kbs kag kbo kpa kdm kdn khh khn hf := rfl
theorem MW_set_18 {cI cB : ClassId} {b : Nat → Nat} {st n td nd nh pl : Nat} {bs : Int32} {kd ag bo pa dm dn hh hn pg sv : Nat → Int32} {sd : Int64} {ik : Int32} {ks ktd knd knh : Nat} {kbs : Int32} {kag kbo kpa kdm kdn khh khn : Nat → Int32} {hf : Int64} {z0 : Nat → Int32} : List.set (MW cI cB b st n td nd nh pl bs kd ag bo pa dm dn hh hn pg sv sd ik ks ktd knd knh kbs kag kbo kpa kdm kdn khh khn hf) 1 (b 1, .inl (cI, 6, .inl z0)) = MW cI cB b st n td nd nh pl bs z0 ag bo pa dm dn hh hn pg sv sd ik ks ktd knd knh kbs kag kbo kpa kdm kdn khh khn hf := rfl
set_option maxRecDepth 100000 in
set_option maxHeartbeats 4000000 in
theorem c_X3_street (l : Launch) (D : va_G) (cI cB : ClassId) (aS : Nat) (b : Nat → Nat) (st n td nd nh pl : Nat) (bs : Int32) (kd ag bo pa dm dn hh hn pg sv : Nat → Int32) (sd : Int64) (ik : Int32) (ks ktd knd knh : Nat) (kbs : Int32) (kag kbo kpa kdm kdn khh khn : Nat → Int32) (hf : Int64)  (hD0 : va_D (fun _ => True) (MW cI cB b st n td nd nh pl bs kd ag bo pa dm dn hh hn pg sv sd ik ks ktd knd knh kbs kag kbo kpa kdm kdn khh khn hf)) (qpl : pl ≤ 19) (qpg : pgOK pg pl) : Met l yX3_street (mw yX3_street cX3_street 2 (some .int)) rm_X3_street (RP D cI cB aS (MW cI cB b st n td nd nh pl bs kd ag bo pa dm dn hh hn pg sv sd ik ks ktd knd knh kbs kag kbo kpa kdm kdn khh khn hf) [.ref (b 0)]) (wq mkI (MW cI cB b st n td nd nh pl bs kd ag bo pa dm dn hh hn pg sv sd ik ks ktd knd knh kbs kag kbo kpa kdm kdn khh khn hf) (fun (u : Bool) => cond u (MW cI cB b (st + 1) ((pl + 1) / 3) 0 0 0 0 (nI 0) (cpF (stK pg) kd ((pl + 1) / 3)) (cpF (stA pg) ag ((pl + 1) / 3)) (cpF (fun _ => nI 0) bo ((pl + 1) / 3)) pa dm dn hh hn pg sv sd ik ks ktd knd knh kbs kag kbo kpa kdm kdn khh khn hf) (MW cI cB b st n td nd nh pl bs kd ag bo pa dm dn hh hn pg sv sd ik ks ktd knd knh kbs kag kbo kpa kdm kdn khh khn hf)) D (fun (r : Int32) (u : Bool) => (stOK pg pl ∧ r = nI ((pl + 1) / 3) ∧ u = true) ∨ (¬ stOK pg pl ∧ r = -103 ∧ u = false))) 0 0 (inW (MW cI cB b st n td nd nh pl bs kd ag bo pa dm dn hh hn pg sv sd ik ks ktd knd knh kbs kag kbo kpa kdm kdn khh khn hf)) := by
  refine met_of (by decide) (Nat.le_of_ble_eq_true rfl) ?_
  intro p e s m below meth c ls hx hb hr hml hown hg hlocks hin hK hP hl
  have hown : s.vm.findClass RX3 = some m.cls := hown
  have hl : lv_has ls 2 [(0, .ref (b 0))] := hl
  have hD := hD0.here
  have hS0 : va_S (inW (MW cI cB b st n td nd nh pl bs kd ag bo pa dm dn hh hn pg sv sd ik ks ktd knd knh kbs kag kbo kpa kdm kdn khh khn hf)) s.heap s.heap [] := va_S.rf
  obtain ⟨H, hH⟩ : ∃ H, H = s.heap := ⟨_, rfl⟩
  have hS : va_S (inW (MW cI cB b st n td nd nh pl bs kd ag bo pa dm dn hh hn pg sv sd ik ks ktd knd knh kbs kag kbo kpa kdm kdn khh khn hf)) s.heap H [] := by rw [hH]; exact hS0
  clear hS0
  rw [← hH] at hP ⊢
  generalize hAe : inW (MW cI cB b st n td nd nh pl bs kd ag bo pa dm dn hh hn pg sv sd ik ks ktd knd knh kbs kag kbo kpa kdm kdn khh khn hf) = A at hD hS ⊢
  refine lv_aload_n hx hb dX3_street_0 rfl (lv_at hl 0 rfl) ?_
  refine va_get (D := D) (ci := 3) (v := .int (nI pl)) (C := RX3) (T := TX3) (N := 32) hx hb hg us_X3 hown hK.1 hP 0 MW_g0 rfl 14 (by decide) (hg _ gm_415) (fun _ h9 => h9) rfl dX3_street_1 ?_
  refine lv_iconst (v := (nI 5)) hx hb dX3_street_4 (by decide) ?_
  refine nv_icmp_lt (tgt := 29) hx hb dX3_street_5 (by omega) (by omega) (by decide) (fun c_5 => ?_) (fun c_5 => ?_)
  · skip
    refine lv_bipush (v := (-103)) hx hb dX3_street_29 (by decide) ?_
    subst hAe
    exact wr_i (w1 := fun (u : Bool) => cond u (MW cI cB b (st + 1) ((pl + 1) / 3) 0 0 0 0 (nI 0) (cpF (stK pg) kd ((pl + 1) / 3)) (cpF (stA pg) ag ((pl + 1) / 3)) (cpF (fun _ => nI 0) bo ((pl + 1) / 3)) pa dm dn hh hn pg sv sd ik ks ktd knd knh kbs kag kbo kpa kdm kdn khh khn hf) (MW cI cB b st n td nd nh pl bs kd ag bo pa dm dn hh hn pg sv sd ik ks ktd knd knh kbs kag kbo kpa kdm kdn khh khn hf)) hx hb hr hlocks hS false hP dX3_street_31 (Or.inr ⟨fun q => by have := q.1; omega, rfl, rfl⟩)
  · skip
    refine lv_aload_n hx hb dX3_street_8 rfl (lv_at hl 0 rfl) ?_
    refine va_get (D := D) (ci := 3) (v := .int (nI pl)) (C := RX3) (T := TX3) (N := 32) hx hb hg us_X3 hown hK.1 hP 0 MW_g0 rfl 14 (by decide) (hg _ gm_415) (fun _ h9 => h9) rfl dX3_street_9 ?_
    refine lv_iconst (v := (nI 3)) hx hb dX3_street_12 (by decide) ?_
    refine nv_irem hx hb dX3_street_13 (by omega) (by omega) (by omega) ?_
    refine lv_iconst (v := (nI 2)) hx hb dX3_street_14 (by decide) ?_
    refine nv_icmp_ne (tgt := 29) hx hb dX3_street_15 (by omega) (by omega) (by decide) (fun c_15 => ?_) (fun c_15 => ?_)
    · skip
      refine lv_bipush (v := (-103)) hx hb dX3_street_29 (by decide) ?_
      subst hAe
      exact wr_i (w1 := fun (u : Bool) => cond u (MW cI cB b (st + 1) ((pl + 1) / 3) 0 0 0 0 (nI 0) (cpF (stK pg) kd ((pl + 1) / 3)) (cpF (stA pg) ag ((pl + 1) / 3)) (cpF (fun _ => nI 0) bo ((pl + 1) / 3)) pa dm dn hh hn pg sv sd ik ks ktd knd knh kbs kag kbo kpa kdm kdn khh khn hf) (MW cI cB b st n td nd nh pl bs kd ag bo pa dm dn hh hn pg sv sd ik ks ktd knd knh kbs kag kbo kpa kdm kdn khh khn hf)) hx hb hr hlocks hS false hP dX3_street_31 (Or.inr ⟨fun q => by have := q.2.1; omega, rfl, rfl⟩)
    · skip
      refine lv_aload_n hx hb dX3_street_18 rfl (lv_at hl 0 rfl) ?_
      refine rdV (As := []) (rest := []) hx hb hml hown hg (c_X3_faultNow l D cI cB aS _ st n td nd nh pl bs kd ag bo pa dm dn hh hn pg sv sd ik ks ktd knd knh kbs kag kbo kpa kdm kdn khh khn hf (by first | assumption | omega) (by first | assumption | omega)) gm_480 vf_X3_faultNow ⟨Nat.le_of_ble_eq_true rfl, Nat.le_of_ble_eq_true rfl⟩ ⟨rfl, rfl⟩ ⟨Nat.zero_le _, Nat.zero_le _⟩ (RP.preV hK hP (q0 := 0) (ci := 3) MW_g0 rfl) rfl hl.1 rfl (Nat.le_of_ble_eq_true rfl) dX3_street_19 ?_
      refine lv_aload_n hx hb dX3_street_22 rfl (lv_at hl 0 rfl) ?_
      refine va_get (D := D) (ci := 3) (v := .int (nI pl)) (C := RX3) (T := TX3) (N := 32) hx hb hg us_X3 hown hK.1 hP 0 MW_g0 rfl 14 (by decide) (hg _ gm_415) (fun _ h9 => h9) rfl dX3_street_23 ?_
      refine nv_icmp_eq (tgt := 32) hx hb dX3_street_26 (by have := fz_le (p := fun k => gdX k (pg k).toNatClampNeg) (n := pl) (lo := 0); unfold ftF; omega) (by omega) (by decide) (fun c_26 => ?_) (fun c_26 => ?_)
      · skip
        refine lv_aload_n hx hb dX3_street_32 rfl (lv_at hl 0 rfl) ?_
        refine lv_aload_n hx hb dX3_street_33 rfl (lv_at hl 0 rfl) ?_
        refine va_get (D := D) (ci := 3) (v := .int (nI pl)) (C := RX3) (T := TX3) (N := 32) hx hb hg us_X3 hown hK.1 hP 0 MW_g0 rfl 14 (by decide) (hg _ gm_415) (fun _ h9 => h9) rfl dX3_street_34 ?_
        refine lv_iconst (v := (nI 1)) hx hb dX3_street_37 (by decide) ?_
        refine nv_iadd hx hb dX3_street_38 ?_
        refine lv_iconst (v := (nI 3)) hx hb dX3_street_39 (by decide) ?_
        refine nv_idiv hx hb dX3_street_40 (by omega) (by omega) (by omega) ?_
        refine va_put (D := D) (ci := 3) (v := .int (nI ((pl + 1) / 3))) (ty := .int) (C := RX3) (T := TX3) (N := 32) hx hb hg us_X3 tyX3 tyX3_ok nmX3 hown hK.1 hP hD hS 0 MW_g0 rfl 1 (by decide) (hg _ gm_402) (fun _ h9 => h9) rfl (by decide +kernel) rfl rfl (Nat.le_of_ble_eq_true rfl) dX3_street_41 (fun H locs hP hD hS => ?_)
        have hP : va_P D vwCl (MW cI cB b st ((pl + 1) / 3) td nd nh pl bs kd ag bo pa dm dn hh hn pg sv sd ik ks ktd knd knh kbs kag kbo kpa kdm kdn khh khn hf) H := P_eq hP MW_set_16
        have hD : va_D A (MW cI cB b st ((pl + 1) / 3) td nd nh pl bs kd ag bo pa dm dn hh hn pg sv sd ik ks ktd knd knh kbs kag kbo kpa kdm kdn khh khn hf) := D_eq hD MW_set_16
        refine lv_iconst (v := (nI 0)) hx hb dX3_street_44 (by decide) ?_
        refine lv_istore_n (lv' := [(1, .int (nI 0)), (0, .ref (b 0))]) hx hb dX3_street_45 rfl hl (by decide) rfl (fun ls hl => ?_)
        have q17 := ft_17 c_26
        -- loop at 46
        refine loopW (nL := 2) (S := Unit) (B := ((pl + 1) / 3)) (I := fun i u => True) (lv := fun i u => [(0, .ref (b 0)), (1, .int (nI i))]) (wf := fun i u => MW cI cB b st ((pl + 1) / 3) td nd nh pl bs (cpF (stK pg) kd i) (cpF (stA pg) ag i) (cpF (fun _ => nI 0) bo i) pa dm dn hh hn pg sv sd ik ks ktd knd knh kbs kag kbo kpa kdm kdn khh khn hf) 0 () (Nat.zero_le _) (trivial) (lv_sub hl [1, 0] rfl) (by show va_P D vwCl (MW cI cB b st ((pl + 1) / 3) td nd nh pl bs (cpF (stK pg) kd 0) (cpF (stA pg) ag 0) (cpF (fun _ => nI 0) bo 0) pa dm dn hh hn pg sv sd ik ks ktd knd knh kbs kag kbo kpa kdm kdn khh khn hf) H; rw [cpF_0, cpF_0, cpF_0]; exact hP) (hD.addr (MW_addr.trans MW_addr.symm)) hS (fun i u ls H locs hj hI hl hP hD hS ih => ?_)
        have hP : va_P D vwCl (MW cI cB b st ((pl + 1) / 3) td nd nh pl bs (cpF (stK pg) kd i) (cpF (stA pg) ag i) (cpF (fun _ => nI 0) bo i) pa dm dn hh hn pg sv sd ik ks ktd knd knh kbs kag kbo kpa kdm kdn khh khn hf) H := hP
        have hD : va_D A (MW cI cB b st ((pl + 1) / 3) td nd nh pl bs (cpF (stK pg) kd i) (cpF (stA pg) ag i) (cpF (fun _ => nI 0) bo i) pa dm dn hh hn pg sv sd ik ks ktd knd knh kbs kag kbo kpa kdm kdn khh khn hf) := hD
        have hl : lv_has ls 2 [(0, .ref (b 0)), (1, .int (nI i))] := hl
        have ih_46 := ih
        refine lv_iload_n hx hb dX3_street_46 rfl (lv_at hl 1 rfl) ?_
        refine lv_aload_n hx hb dX3_street_47 rfl (lv_at hl 0 rfl) ?_
        refine va_get (D := D) (ci := 3) (v := .int (nI ((pl + 1) / 3))) (C := RX3) (T := TX3) (N := 32) hx hb hg us_X3 hown hK.1 hP 0 MW_g0 rfl 1 (by decide) (hg _ gm_402) (fun _ h9 => h9) rfl dX3_street_48 ?_
        refine nv_icmp_ge (tgt := 103) hx hb dX3_street_51 (by omega) (by omega) (by decide) (fun c_51 => ?_) (fun c_51 => ?_)
        · skip
          refine lv_aload_n hx hb dX3_street_103 rfl (lv_at hl 0 rfl) ?_
          refine lv_dup hx hb dX3_street_104 rfl ?_
          refine va_get (D := D) (ci := 3) (v := .int (nI st)) (C := RX3) (T := TX3) (N := 32) hx hb hg us_X3 hown hK.1 hP 0 MW_g0 rfl 0 (by decide) (hg _ gm_401) (fun _ h9 => h9) rfl dX3_street_105 ?_
          refine lv_iconst (v := (nI 1)) hx hb dX3_street_108 (by decide) ?_
          refine nv_iadd hx hb dX3_street_109 ?_
          refine va_put (D := D) (ci := 3) (v := .int (nI (st + 1))) (ty := .int) (C := RX3) (T := TX3) (N := 32) hx hb hg us_X3 tyX3 tyX3_ok nmX3 hown hK.1 hP hD hS 0 MW_g0 rfl 0 (by decide) (hg _ gm_401) (fun _ h9 => h9) rfl (by decide +kernel) rfl rfl (Nat.le_of_ble_eq_true rfl) dX3_street_110 (fun H locs hP hD hS => ?_)
          have hP : va_P D vwCl (MW cI cB b (st + 1) ((pl + 1) / 3) td nd nh pl bs (cpF (stK pg) kd i) (cpF (stA pg) ag i) (cpF (fun _ => nI 0) bo i) pa dm dn hh hn pg sv sd ik ks ktd knd knh kbs kag kbo kpa kdm kdn khh khn hf) H := P_eq hP MW_set_17
          have hD : va_D A (MW cI cB b (st + 1) ((pl + 1) / 3) td nd nh pl bs (cpF (stK pg) kd i) (cpF (stA pg) ag i) (cpF (fun _ => nI 0) bo i) pa dm dn hh hn pg sv sd ik ks ktd knd knh kbs kag kbo kpa kdm kdn khh khn hf) := D_eq hD MW_set_17
          refine lv_aload_n hx hb dX3_street_113 rfl (lv_at hl 0 rfl) ?_
          refine lv_iconst (v := (nI 0)) hx hb dX3_street_114 (by decide) ?_
          refine va_put (D := D) (ci := 3) (v := .int (nI 0)) (ty := .int) (C := RX3) (T := TX3) (N := 32) hx hb hg us_X3 tyX3 tyX3_ok nmX3 hown hK.1 hP hD hS 0 MW_g0 rfl 6 (by decide) (hg _ gm_407) (fun _ h9 => h9) rfl (by decide +kernel) rfl rfl (Nat.le_of_ble_eq_true rfl) dX3_street_115 (fun H locs hP hD hS => ?_)
          have hP : va_P D vwCl (MW cI cB b (st + 1) ((pl + 1) / 3) 0 nd nh pl bs (cpF (stK pg) kd i) (cpF (stA pg) ag i) (cpF (fun _ => nI 0) bo i) pa dm dn hh hn pg sv sd ik ks ktd knd knh kbs kag kbo kpa kdm kdn khh khn hf) H := P_eq hP MW_set_9
          have hD : va_D A (MW cI cB b (st + 1) ((pl + 1) / 3) 0 nd nh pl bs (cpF (stK pg) kd i) (cpF (stA pg) ag i) (cpF (fun _ => nI 0) bo i) pa dm dn hh hn pg sv sd ik ks ktd knd knh kbs kag kbo kpa kdm kdn khh khn hf) := D_eq hD MW_set_9
          refine lv_aload_n hx hb dX3_street_118 rfl (lv_at hl 0 rfl) ?_
          refine lv_iconst (v := (nI 0)) hx hb dX3_street_119 (by decide) ?_
          refine va_put (D := D) (ci := 3) (v := .int (nI 0)) (ty := .int) (C := RX3) (T := TX3) (N := 32) hx hb hg us_X3 tyX3 tyX3_ok nmX3 hown hK.1 hP hD hS 0 MW_g0 rfl 7 (by decide) (hg _ gm_408) (fun _ h9 => h9) rfl (by decide +kernel) rfl rfl (Nat.le_of_ble_eq_true rfl) dX3_street_120 (fun H locs hP hD hS => ?_)
          have hP : va_P D vwCl (MW cI cB b (st + 1) ((pl + 1) / 3) 0 nd nh pl (nI 0) (cpF (stK pg) kd i) (cpF (stA pg) ag i) (cpF (fun _ => nI 0) bo i) pa dm dn hh hn pg sv sd ik ks ktd knd knh kbs kag kbo kpa kdm kdn khh khn hf) H := P_eq hP MW_set_8
          have hD : va_D A (MW cI cB b (st + 1) ((pl + 1) / 3) 0 nd nh pl (nI 0) (cpF (stK pg) kd i) (cpF (stA pg) ag i) (cpF (fun _ => nI 0) bo i) pa dm dn hh hn pg sv sd ik ks ktd knd knh kbs kag kbo kpa kdm kdn khh khn hf) := D_eq hD MW_set_8
          refine lv_aload_n hx hb dX3_street_123 rfl (lv_at hl 0 rfl) ?_
          refine lv_iconst (v := (nI 0)) hx hb dX3_street_124 (by decide) ?_
          refine va_put (D := D) (ci := 3) (v := .int (nI 0)) (ty := .int) (C := RX3) (T := TX3) (N := 32) hx hb hg us_X3 tyX3 tyX3_ok nmX3 hown hK.1 hP hD hS 0 MW_g0 rfl 8 (by decide) (hg _ gm_409) (fun _ h9 => h9) rfl (by decide +kernel) rfl rfl (Nat.le_of_ble_eq_true rfl) dX3_street_125 (fun H locs hP hD hS => ?_)
          have hP : va_P D vwCl (MW cI cB b (st + 1) ((pl + 1) / 3) 0 0 nh pl (nI 0) (cpF (stK pg) kd i) (cpF (stA pg) ag i) (cpF (fun _ => nI 0) bo i) pa dm dn hh hn pg sv sd ik ks ktd knd knh kbs kag kbo kpa kdm kdn khh khn hf) H := P_eq hP MW_set_3
          have hD : va_D A (MW cI cB b (st + 1) ((pl + 1) / 3) 0 0 nh pl (nI 0) (cpF (stK pg) kd i) (cpF (stA pg) ag i) (cpF (fun _ => nI 0) bo i) pa dm dn hh hn pg sv sd ik ks ktd knd knh kbs kag kbo kpa kdm kdn khh khn hf) := D_eq hD MW_set_3
          refine lv_aload_n hx hb dX3_street_128 rfl (lv_at hl 0 rfl) ?_
          refine lv_iconst (v := (nI 0)) hx hb dX3_street_129 (by decide) ?_
          refine va_put (D := D) (ci := 3) (v := .int (nI 0)) (ty := .int) (C := RX3) (T := TX3) (N := 32) hx hb hg us_X3 tyX3 tyX3_ok nmX3 hown hK.1 hP hD hS 0 MW_g0 rfl 11 (by decide) (hg _ gm_412) (fun _ h9 => h9) rfl (by decide +kernel) rfl rfl (Nat.le_of_ble_eq_true rfl) dX3_street_130 (fun H locs hP hD hS => ?_)
          have hP : va_P D vwCl (MW cI cB b (st + 1) ((pl + 1) / 3) 0 0 0 pl (nI 0) (cpF (stK pg) kd i) (cpF (stA pg) ag i) (cpF (fun _ => nI 0) bo i) pa dm dn hh hn pg sv sd ik ks ktd knd knh kbs kag kbo kpa kdm kdn khh khn hf) H := P_eq hP MW_set_2
          have hD : va_D A (MW cI cB b (st + 1) ((pl + 1) / 3) 0 0 0 pl (nI 0) (cpF (stK pg) kd i) (cpF (stA pg) ag i) (cpF (fun _ => nI 0) bo i) pa dm dn hh hn pg sv sd ik ks ktd knd knh kbs kag kbo kpa kdm kdn khh khn hf) := D_eq hD MW_set_2
          refine lv_aload_n hx hb dX3_street_133 rfl (lv_at hl 0 rfl) ?_
          refine lv_iconst (v := (nI 0)) hx hb dX3_street_134 (by decide) ?_
          refine va_put (D := D) (ci := 3) (v := .int (nI 0)) (ty := .int) (C := RX3) (T := TX3) (N := 32) hx hb hg us_X3 tyX3 tyX3_ok nmX3 hown hK.1 hP hD hS 0 MW_g0 rfl 14 (by decide) (hg _ gm_415) (fun _ h9 => h9) rfl (by decide +kernel) rfl rfl (Nat.le_of_ble_eq_true rfl) dX3_street_135 (fun H locs hP hD hS => ?_)
          have hP : va_P D vwCl (MW cI cB b (st + 1) ((pl + 1) / 3) 0 0 0 0 (nI 0) (cpF (stK pg) kd i) (cpF (stA pg) ag i) (cpF (fun _ => nI 0) bo i) pa dm dn hh hn pg sv sd ik ks ktd knd knh kbs kag kbo kpa kdm kdn khh khn hf) H := P_eq hP MW_set_1
          have hD : va_D A (MW cI cB b (st + 1) ((pl + 1) / 3) 0 0 0 0 (nI 0) (cpF (stK pg) kd i) (cpF (stA pg) ag i) (cpF (fun _ => nI 0) bo i) pa dm dn hh hn pg sv sd ik ks ktd knd knh kbs kag kbo kpa kdm kdn khh khn hf) := D_eq hD MW_set_1
          refine lv_aload_n hx hb dX3_street_138 rfl (lv_at hl 0 rfl) ?_
          refine va_get (D := D) (ci := 3) (v := .int (nI ((pl + 1) / 3))) (C := RX3) (T := TX3) (N := 32) hx hb hg us_X3 hown hK.1 hP 0 MW_g0 rfl 1 (by decide) (hg _ gm_402) (fun _ h9 => h9) rfl dX3_street_139 ?_
          subst hAe
          exact wr_i (w1 := fun (u : Bool) => cond u (MW cI cB b (st + 1) ((pl + 1) / 3) 0 0 0 0 (nI 0) (cpF (stK pg) kd ((pl + 1) / 3)) (cpF (stA pg) ag ((pl + 1) / 3)) (cpF (fun _ => nI 0) bo ((pl + 1) / 3)) pa dm dn hh hn pg sv sd ik ks ktd knd knh kbs kag kbo kpa kdm kdn khh khn hf) (MW cI cB b st n td nd nh pl bs kd ag bo pa dm dn hh hn pg sv sd ik ks ktd knd knh kbs kag kbo kpa kdm kdn khh khn hf)) hx hb hr hlocks hS true (by rw [show i = (pl + 1) / 3 by omega] at hP; exact hP) dX3_street_142 (Or.inl ⟨⟨c_5, c_15, c_26⟩, rfl, rfl⟩)
        · skip
          refine lv_aload_n hx hb dX3_street_54 rfl (lv_at hl 0 rfl) ?_
          refine va_get (D := D) (ci := 3) (v := .ref (b 1)) (C := RX3) (T := TX3) (N := 32) hx hb hg us_X3 hown hK.1 hP 0 MW_g0 rfl 2 (by decide) (hg _ gm_403) (fun _ h9 => h9) rfl dX3_street_55 ?_
          refine lv_iload_n hx hb dX3_street_58 rfl (lv_at hl 1 rfl) ?_
          refine lv_aload_n hx hb dX3_street_59 rfl (lv_at hl 0 rfl) ?_
          refine va_get (D := D) (ci := 3) (v := .ref (b 9)) (C := RX3) (T := TX3) (N := 32) hx hb hg us_X3 hown hK.1 hP 0 MW_g0 rfl 15 (by decide) (hg _ gm_416) (fun _ h9 => h9) rfl dX3_street_60 ?_
          refine lv_iconst (v := (nI 3)) hx hb dX3_street_63 (by decide) ?_
          refine lv_iload_n hx hb dX3_street_64 rfl (lv_at hl 1 rfl) ?_
          refine nv_imul hx hb dX3_street_65 ?_
          refine nv_bald hx hb hK.1 hP 9 1 MW_g9 rfl (by omega) (by omega) dX3_street_66 ?_
          rw [show ((pg (3 * i)) : Int32) = (nI ((pg (3 * i)).toNatClampNeg)) from (qpg (3 * i) (by omega)).1]
          refine rdS (As := [.int (nI ((pg (3 * i)).toNatClampNeg))]) (rest := [.int (nI i), .ref (b 1)]) hx hb hml hown hg (c_X3_kindBy l D cI cB aS ((pg (3 * i)).toNatClampNeg) (qpg (3 * i) (by omega)).2.2) gm_486 sf_X3_kindBy ⟨Nat.le_of_ble_eq_true rfl, Nat.le_of_ble_eq_true rfl⟩ ⟨rfl, rfl⟩ ⟨Nat.zero_le _, Nat.zero_le _⟩ (RP.preS hK (fun k q h => by simp at h)) rfl hl.1 rfl (Nat.le_of_ble_eq_true rfl) dX3_street_67 ?_
          refine nv_iast hx hb hK.1 hP hD hS 1 0 MW_g1 rfl (by omega) (by omega) dX3_street_70 (fun H locs hP hD hS => ?_)
          have hP : va_P D vwCl (MW cI cB b st ((pl + 1) / 3) td nd nh pl bs (upd (cpF (stK pg) kd i) i (kindF ((pg (3 * i)).toNatClampNeg))) (cpF (stA pg) ag i) (cpF (fun _ => nI 0) bo i) pa dm dn hh hn pg sv sd ik ks ktd knd knh kbs kag kbo kpa kdm kdn khh khn hf) H := P_eq hP MW_set_18
          have hD : va_D A (MW cI cB b st ((pl + 1) / 3) td nd nh pl bs (upd (cpF (stK pg) kd i) i (kindF ((pg (3 * i)).toNatClampNeg))) (cpF (stA pg) ag i) (cpF (fun _ => nI 0) bo i) pa dm dn hh hn pg sv sd ik ks ktd knd knh kbs kag kbo kpa kdm kdn khh khn hf) := D_eq hD MW_set_18
          have e_1 : upd (cpF (stK pg) kd i) i (kindF ((pg (3 * i)).toNatClampNeg)) = cpF (stK pg) kd (i + 1) := cpF_s rfl
          rw [e_1] at hP hD
          have hP : va_P D vwCl (MW cI cB b st ((pl + 1) / 3) td nd nh pl bs (cpF (stK pg) kd (i + 1)) (cpF (stA pg) ag i) (cpF (fun _ => nI 0) bo i) pa dm dn hh hn pg sv sd ik ks ktd knd knh kbs kag kbo kpa kdm kdn khh khn hf) H := hP
          have hD : va_D A (MW cI cB b st ((pl + 1) / 3) td nd nh pl bs (cpF (stK pg) kd (i + 1)) (cpF (stA pg) ag i) (cpF (fun _ => nI 0) bo i) pa dm dn hh hn pg sv sd ik ks ktd knd knh kbs kag kbo kpa kdm kdn khh khn hf) := hD
          refine lv_aload_n hx hb dX3_street_71 rfl (lv_at hl 0 rfl) ?_
          refine va_get (D := D) (ci := 3) (v := .ref (b 2)) (C := RX3) (T := TX3) (N := 32) hx hb hg us_X3 hown hK.1 hP 0 MW_g0 rfl 3 (by decide) (hg _ gm_404) (fun _ h9 => h9) rfl dX3_street_72 ?_
          refine lv_iload_n hx hb dX3_street_75 rfl (lv_at hl 1 rfl) ?_
          refine lv_aload_n hx hb dX3_street_76 rfl (lv_at hl 0 rfl) ?_
          refine va_get (D := D) (ci := 3) (v := .ref (b 9)) (C := RX3) (T := TX3) (N := 32) hx hb hg us_X3 hown hK.1 hP 0 MW_g0 rfl 15 (by decide) (hg _ gm_416) (fun _ h9 => h9) rfl dX3_street_77 ?_
          refine lv_iconst (v := (nI 3)) hx hb dX3_street_80 (by decide) ?_
          refine lv_iload_n hx hb dX3_street_81 rfl (lv_at hl 1 rfl) ?_
          refine nv_imul hx hb dX3_street_82 ?_
          refine lv_iconst (v := (nI 1)) hx hb dX3_street_83 (by decide) ?_
          refine nv_iadd hx hb dX3_street_84 ?_
          refine nv_bald hx hb hK.1 hP 9 1 MW_g9 rfl (by omega) (by omega) dX3_street_85 ?_
          refine lv_bipush (v := (nI 48)) hx hb dX3_street_86 (by decide) ?_
          refine lv_isub hx hb dX3_street_88 ?_
          refine nv_iast hx hb hK.1 hP hD hS 2 0 MW_g2 rfl (by omega) (by omega) dX3_street_89 (fun H locs hP hD hS => ?_)
          have hP : va_P D vwCl (MW cI cB b st ((pl + 1) / 3) td nd nh pl bs (cpF (stK pg) kd (i + 1)) (upd (cpF (stA pg) ag i) i ((pg (3 * i + 1)) - (nI 48))) (cpF (fun _ => nI 0) bo i) pa dm dn hh hn pg sv sd ik ks ktd knd knh kbs kag kbo kpa kdm kdn khh khn hf) H := P_eq hP MW_set_5
          have hD : va_D A (MW cI cB b st ((pl + 1) / 3) td nd nh pl bs (cpF (stK pg) kd (i + 1)) (upd (cpF (stA pg) ag i) i ((pg (3 * i + 1)) - (nI 48))) (cpF (fun _ => nI 0) bo i) pa dm dn hh hn pg sv sd ik ks ktd knd knh kbs kag kbo kpa kdm kdn khh khn hf) := D_eq hD MW_set_5
          have e_2 : upd (cpF (stA pg) ag i) i ((pg (3 * i + 1)) - (nI 48)) = cpF (stA pg) ag (i + 1) := cpF_s rfl
          rw [e_2] at hP hD
          have hP : va_P D vwCl (MW cI cB b st ((pl + 1) / 3) td nd nh pl bs (cpF (stK pg) kd (i + 1)) (cpF (stA pg) ag (i + 1)) (cpF (fun _ => nI 0) bo i) pa dm dn hh hn pg sv sd ik ks ktd knd knh kbs kag kbo kpa kdm kdn khh khn hf) H := hP
          have hD : va_D A (MW cI cB b st ((pl + 1) / 3) td nd nh pl bs (cpF (stK pg) kd (i + 1)) (cpF (stA pg) ag (i + 1)) (cpF (fun _ => nI 0) bo i) pa dm dn hh hn pg sv sd ik ks ktd knd knh kbs kag kbo kpa kdm kdn khh khn hf) := hD
          refine lv_aload_n hx hb dX3_street_90 rfl (lv_at hl 0 rfl) ?_
          refine va_get (D := D) (ci := 3) (v := .ref (b 3)) (C := RX3) (T := TX3) (N := 32) hx hb hg us_X3 hown hK.1 hP 0 MW_g0 rfl 4 (by decide) (hg _ gm_405) (fun _ h9 => h9) rfl dX3_street_91 ?_
          refine lv_iload_n hx hb dX3_street_94 rfl (lv_at hl 1 rfl) ?_
          refine lv_iconst (v := (nI 0)) hx hb dX3_street_95 (by decide) ?_
          refine nv_iast hx hb hK.1 hP hD hS 3 0 MW_g3 rfl (by omega) (by omega) dX3_street_96 (fun H locs hP hD hS => ?_)
          have hP : va_P D vwCl (MW cI cB b st ((pl + 1) / 3) td nd nh pl bs (cpF (stK pg) kd (i + 1)) (cpF (stA pg) ag (i + 1)) (upd (cpF (fun _ => nI 0) bo i) i (nI 0)) pa dm dn hh hn pg sv sd ik ks ktd knd knh kbs kag kbo kpa kdm kdn khh khn hf) H := P_eq hP MW_set_7
          have hD : va_D A (MW cI cB b st ((pl + 1) / 3) td nd nh pl bs (cpF (stK pg) kd (i + 1)) (cpF (stA pg) ag (i + 1)) (upd (cpF (fun _ => nI 0) bo i) i (nI 0)) pa dm dn hh hn pg sv sd ik ks ktd knd knh kbs kag kbo kpa kdm kdn khh khn hf) := D_eq hD MW_set_7
          have e_3 : upd (cpF (fun _ => nI 0) bo i) i (nI 0) = cpF (fun _ => nI 0) bo (i + 1) := cpF_s rfl
          rw [e_3] at hP hD
          have hP : va_P D vwCl (MW cI cB b st ((pl + 1) / 3) td nd nh pl bs (cpF (stK pg) kd (i + 1)) (cpF (stA pg) ag (i + 1)) (cpF (fun _ => nI 0) bo (i + 1)) pa dm dn hh hn pg sv sd ik ks ktd knd knh kbs kag kbo kpa kdm kdn khh khn hf) H := hP
          have hD : va_D A (MW cI cB b st ((pl + 1) / 3) td nd nh pl bs (cpF (stK pg) kd (i + 1)) (cpF (stA pg) ag (i + 1)) (cpF (fun _ => nI 0) bo (i + 1)) pa dm dn hh hn pg sv sd ik ks ktd knd knh kbs kag kbo kpa kdm kdn khh khn hf) := hD
          refine lv_iinc (v := (nI (i + 1))) (lv' := [(1, .int (nI (i + 1))), (0, .ref (b 0))]) hx hb dX3_street_97 hl (k := 1) rfl (nI_i1 _) (by decide) rfl (fun ls hl => ?_)
          refine lv_goto (tgt := 46) hx hb dX3_street_100 (by decide) ?_
          exact ih_46 () _ _ _ (by omega) (trivial) (lv_sub hl [1, 0] rfl) hP (hD.addr (MW_addr.trans MW_addr.symm)) hS
      · skip
        refine lv_bipush (v := (-103)) hx hb dX3_street_29 (by decide) ?_
        subst hAe
        exact wr_i (w1 := fun (u : Bool) => cond u (MW cI cB b (st + 1) ((pl + 1) / 3) 0 0 0 0 (nI 0) (cpF (stK pg) kd ((pl + 1) / 3)) (cpF (stA pg) ag ((pl + 1) / 3)) (cpF (fun _ => nI 0) bo ((pl + 1) / 3)) pa dm dn hh hn pg sv sd ik ks ktd knd knh kbs kag kbo kpa kdm kdn khh khn hf) (MW cI cB b st n td nd nh pl bs kd ag bo pa dm dn hh hn pg sv sd ik ks ktd knd knh kbs kag kbo kpa kdm kdn khh khn hf)) hx hb hr hlocks hS false hP dX3_street_31 (Or.inr ⟨fun q => c_26 q.2.2, rfl, rfl⟩)
