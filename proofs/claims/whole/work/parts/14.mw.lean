abbrev rm_X3_image : Room := { frames := 0, cells := 0, slots := 0, locals := 0 }
theorem MW_set_19 {cI cB : ClassId} {b : Nat → Nat} {st n td nd nh pl : Nat} {bs : Int32} {kd ag bo pa dm dn hh hn pg sv : Nat → Int32} {sd : Int64} {ik : Int32} {ks ktd knd knh : Nat} {kbs : Int32} {kag kbo kpa kdm kdn khh khn : Nat → Int32} {hf : Int64} {z0 : Int32} : List.set (MW cI cB b st n td nd nh pl bs kd ag bo pa dm dn hh hn pg sv sd ik ks ktd knd knh kbs kag kbo kpa kdm kdn khh khn hf) 0 (b 0, .inr (3, List.set [.int (nI st), .int (nI n), .ref (b 1), .ref (b 2), .ref (b 3), .ref (b 4), .int (nI td), .int bs, .int (nI nd), .ref (b 5), .ref (b 6), .int (nI nh), .ref (b 7), .ref (b 8), .int (nI pl), .ref (b 9), .ref (b 10), .long sd, .int ik, .int (nI ks), .int (nI ktd), .int kbs, .int (nI knd), .int (nI knh), .ref (b 11), .ref (b 12), .ref (b 13), .ref (b 14), .ref (b 15), .ref (b 16), .ref (b 17), .long hf] 18 (.int z0))) = MW cI cB b st n td nd nh pl bs kd ag bo pa dm dn hh hn pg sv sd z0 ks ktd knd knh kbs kag kbo kpa kdm kdn khh khn hf := rfl
theorem MW_set_20 {cI cB : ClassId} {b : Nat → Nat} {st n td nd nh pl : Nat} {bs : Int32} {kd ag bo pa dm dn hh hn pg sv : Nat → Int32} {sd : Int64} {ik : Int32} {ks ktd knd knh : Nat} {kbs : Int32} {kag kbo kpa kdm kdn khh khn : Nat → Int32} {hf : Int64} {z0 : Nat} : List.set (MW cI cB b st n td nd nh pl bs kd ag bo pa dm dn hh hn pg sv sd ik ks ktd knd knh kbs kag kbo kpa kdm kdn khh khn hf) 0 (b 0, .inr (3, List.set [.int (nI st), .int (nI n), .ref (b 1), .ref (b 2), .ref (b 3), .ref (b 4), .int (nI td), .int bs, .int (nI nd), .ref (b 5), .ref (b 6), .int (nI nh), .ref (b 7), .ref (b 8), .int (nI pl), .ref (b 9), .ref (b 10), .long sd, .int ik, .int (nI ks), .int (nI ktd), .int kbs, .int (nI knd), .int (nI knh), .ref (b 11), .ref (b 12), .ref (b 13), .ref (b 14), .ref (b 15), .ref (b 16), .ref (b 17), .long hf] 19 (.int (nI z0)))) = MW cI cB b st n td nd nh pl bs kd ag bo pa dm dn hh hn pg sv sd ik z0 ktd knd knh kbs kag kbo kpa kdm kdn khh khn hf := rfl
theorem MW_set_21 {cI cB : ClassId} {b : Nat → Nat} {st n td nd nh pl : Nat} {bs : Int32} {kd ag bo pa dm dn hh hn pg sv : Nat → Int32} {sd : Int64} {ik : Int32} {ks ktd knd knh : Nat} {kbs : Int32} {kag kbo kpa kdm kdn khh khn : Nat → Int32} {hf : Int64} {z0 : Nat} : List.set (MW cI cB b st n td nd nh pl bs kd ag bo pa dm dn hh hn pg sv sd ik ks ktd knd knh kbs kag kbo kpa kdm kdn khh khn hf) 0 (b 0, .inr (3, List.set [.int (nI st), .int (nI n), .ref (b 1), .ref (b 2), .ref (b 3), .ref (b 4), .int (nI td), .int bs, .int (nI nd), .ref (b 5), .ref (b 6), .int (nI nh), .ref (b 7), .ref (b 8), .int (nI pl), .ref (b 9), .ref (b 10), .long sd, .int ik, .int (nI ks), .int (nI ktd), .int kbs, .int (nI knd), .int (nI knh), .ref (b 11), .ref (b 12), .ref (b 13), .ref (b 14), .ref (b 15), .ref (b 16), .ref (b 17), .long hf] 20 (.int (nI z0)))) = MW cI cB b st n td nd nh pl bs kd ag bo pa dm dn hh hn pg sv sd ik ks z0 knd knh kbs kag kbo kpa kdm kdn khh khn hf := rfl
theorem MW_set_22 {cI cB : ClassId} {b : Nat → Nat} {st n td nd nh pl : Nat} {bs : Int32} {kd ag bo pa dm dn hh hn pg sv : Nat → Int32} {sd : Int64} {ik : Int32} {ks ktd knd knh : Nat} {kbs : Int32} {kag kbo kpa kdm kdn khh khn : Nat → Int32} {hf : Int64} {z0 : Int32} : List.set (MW cI cB b st n td nd nh pl bs kd ag bo pa dm dn hh hn pg sv sd ik ks ktd knd knh kbs kag kbo kpa kdm kdn khh khn hf) 0 (b 0, .inr (3, List.set [.int (nI st), .int (nI n), .ref (b 1), .ref (b 2), .ref (b 3), .ref (b 4), .int (nI td), .int bs, .int (nI nd), .ref (b 5), .ref (b 6), .int (nI nh), .ref (b 7), .ref (b 8), .int (nI pl), .ref (b 9), .ref (b 10), .long sd, .int ik, .int (nI ks), .int (nI ktd), .int kbs, .int (nI knd), .int (nI knh), .ref (b 11), .ref (b 12), .ref (b 13), .ref (b 14), .ref (b 15), .ref (b 16), .ref (b 17), .long hf] 21 (.int z0))) = MW cI cB b st n td nd nh pl bs kd ag bo pa dm dn hh hn pg sv sd ik ks ktd knd knh z0 kag kbo kpa kdm kdn khh khn hf := rfl
theorem MW_set_23 {cI cB : ClassId} {b : Nat → Nat} {st n td nd nh pl : Nat} {bs : Int32} {kd ag bo pa dm dn hh hn pg sv : Nat → Int32} {sd : Int64} {ik : Int32} {ks ktd knd knh : Nat} {kbs : Int32} {kag kbo kpa kdm kdn khh khn : Nat → Int32} {hf : Int64} {z0 : Nat} : List.set (MW cI cB b st n td nd nh pl bs kd ag bo pa dm dn hh hn pg sv sd ik ks ktd knd knh kbs kag kbo kpa kdm kdn khh khn hf) 0 (b 0, .inr (3, List.set [.int (nI st), .int (nI n), .ref (b 1), .ref (b 2), .ref (b 3), .ref (b 4), .int (nI td), .int bs, .int (nI nd), .ref (b 5), .ref (b 6), .int (nI nh), .ref (b 7), .ref (b 8), .int (nI pl), .ref (b 9), .ref (b 10), .long sd, .int ik, .int (nI ks), .int (nI ktd), .int kbs, .int (nI knd), .int (nI knh), .ref (b 11), .ref (b 12), .ref (b 13), .ref (b 14), .ref (b 15), .ref (b 16), .ref (b 17), .long hf] 22 (.int (nI z0)))) = MW cI cB b st n td nd nh pl bs kd ag bo pa dm dn hh hn pg sv sd ik ks ktd z0 knh kbs kag kbo kpa kdm kdn khh khn hf := rfl
theorem MW_set_24 {cI cB : ClassId} {b : Nat → Nat} {st n td nd nh pl : Nat} {bs : Int32} {kd ag bo pa dm dn hh hn pg sv : Nat → Int32} {sd : Int64} {ik : Int32} {ks ktd knd knh : Nat} {kbs : Int32} {kag kbo kpa kdm kdn khh khn : Nat → Int32} {hf : Int64} {z0 : Nat} : List.set (MW cI cB b st n td nd nh pl bs kd ag bo pa dm dn hh hn pg sv sd ik ks ktd knd knh kbs kag kbo kpa kdm kdn khh khn hf) 0 (b 0, .inr (3, List.set [.int (nI st), .int (nI n), .ref (b 1), .ref (b 2), .ref (b 3), .ref (b 4), .int (nI td), .int bs, .int (nI nd), .ref (b 5), .ref (b 6), .int (nI nh), .ref (b 7), .ref (b 8), .int (nI pl), .ref (b 9), .ref (b 10), .long sd, .int ik, .int (nI ks), .int (nI ktd), .int kbs, .int (nI knd), .int (nI knh), .ref (b 11), .ref (b 12), .ref (b 13), .ref (b 14), .ref (b 15), .ref (b 16), .ref (b 17), .long hf] 23 (.int (nI z0)))) = MW cI cB b st n td nd nh pl bs kd ag bo pa dm dn hh hn pg sv sd ik ks ktd knd z0 kbs kag kbo kpa kdm kdn khh khn hf := rfl
theorem MW_set_25 {cI cB : ClassId} {b : Nat → Nat} {st n td nd nh pl : Nat} {bs : Int32} {kd ag bo pa dm dn hh hn pg sv : Nat → Int32} {sd : Int64} {ik : Int32} {ks ktd knd knh : Nat} {kbs : Int32} {kag kbo kpa kdm kdn khh khn : Nat → Int32} {hf : Int64} {z0 : Nat → Int32} : List.set (MW cI cB b st n td nd nh pl bs kd ag bo pa dm dn hh hn pg sv sd ik ks ktd knd knh kbs kag kbo kpa kdm kdn khh khn hf) 11 (b 11, .inl (cI, 6, .inl z0)) = MW cI cB b st n td nd nh pl bs kd ag bo pa dm dn hh hn pg sv sd ik ks ktd knd knh kbs z0 kbo kpa kdm kdn khh khn hf := rfl
theorem MW_set_26 {cI cB : ClassId} {b : Nat → Nat} {st n td nd nh pl : Nat} {bs : Int32} {kd ag bo pa dm dn hh hn pg sv : Nat → Int32} {sd : Int64} {ik : Int32} {ks ktd knd knh : Nat} {kbs : Int32} {kag kbo kpa kdm kdn khh khn : Nat → Int32} {hf : Int64} {z0 : Nat → Int32} : List.set (MW cI cB b st n td nd nh pl bs kd ag bo pa dm dn hh hn pg sv sd ik ks ktd knd knh kbs kag kbo kpa kdm kdn khh khn hf) 12 (b 12, .inl (cI, 6, .inl z0)) = MW cI cB b st n td nd nh pl bs kd ag bo pa dm dn hh hn pg sv sd ik ks ktd knd knh kbs kag z0 kpa kdm kdn khh khn hf := rfl
theorem MW_set_27 {cI cB : ClassId} {b : Nat → Nat} {st n td nd nh pl : Nat} {bs : Int32} {kd ag bo pa dm dn hh hn pg sv : Nat → Int32} {sd : Int64} {ik : Int32} {ks ktd knd knh : Nat} {kbs : Int32} {kag kbo kpa kdm kdn khh khn : Nat → Int32} {hf : Int64} {z0 : Nat → Int32} : List.set (MW cI cB b st n td nd nh pl bs kd ag bo pa dm dn hh hn pg sv sd ik ks ktd knd knh kbs kag kbo kpa kdm kdn khh khn hf) 14 (b 14, .inl (cI, 6, .inl z0)) = MW cI cB b st n td nd nh pl bs kd ag bo pa dm dn hh hn pg sv sd ik ks ktd knd knh kbs kag kbo kpa z0 kdn khh khn hf := rfl
theorem MW_set_28 {cI cB : ClassId} {b : Nat → Nat} {st n td nd nh pl : Nat} {bs : Int32} {kd ag bo pa dm dn hh hn pg sv : Nat → Int32} {sd : Int64} {ik : Int32} {ks ktd knd knh : Nat} {kbs : Int32} {kag kbo kpa kdm kdn khh khn : Nat → Int32} {hf : Int64} {z0 : Nat → Int32} : List.set (MW cI cB b st n td nd nh pl bs kd ag bo pa dm dn hh hn pg sv sd ik ks ktd knd knh kbs kag kbo kpa kdm kdn khh khn hf) 15 (b 15, .inl (cI, 6, .inl z0)) = MW cI cB b st n td nd nh pl bs kd ag bo pa dm dn hh hn pg sv sd ik ks ktd knd knh kbs kag kbo kpa kdm z0 khh khn hf := rfl
theorem MW_set_29 {cI cB : ClassId} {b : Nat → Nat} {st n td nd nh pl : Nat} {bs : Int32} {kd ag bo pa dm dn hh hn pg sv : Nat → Int32} {sd : Int64} {ik : Int32} {ks ktd knd knh : Nat} {kbs : Int32} {kag kbo kpa kdm kdn khh khn : Nat → Int32} {hf : Int64} {z0 : Nat → Int32} : List.set (MW cI cB b st n td nd nh pl bs kd ag bo pa dm dn hh hn pg sv sd ik ks ktd knd knh kbs kag kbo kpa kdm kdn khh khn hf) 16 (b 16, .inl (cI, 6, .inl z0)) = MW cI cB b st n td nd nh pl bs kd ag bo pa dm dn hh hn pg sv sd ik ks ktd knd knh kbs kag kbo kpa kdm kdn z0 khn hf := rfl
theorem MW_set_30 {cI cB : ClassId} {b : Nat → Nat} {st n td nd nh pl : Nat} {bs : Int32} {kd ag bo pa dm dn hh hn pg sv : Nat → Int32} {sd : Int64} {ik : Int32} {ks ktd knd knh : Nat} {kbs : Int32} {kag kbo kpa kdm kdn khh khn : Nat → Int32} {hf : Int64} {z0 : Nat → Int32} : List.set (MW cI cB b st n td nd nh pl bs kd ag bo pa dm dn hh hn pg sv sd ik ks ktd knd knh kbs kag kbo kpa kdm kdn khh khn hf) 17 (b 17, .inl (cI, 6, .inl z0)) = MW cI cB b st n td nd nh pl bs kd ag bo pa dm dn hh hn pg sv sd ik ks ktd knd knh kbs kag kbo kpa kdm kdn khh z0 hf := rfl
theorem MW_set_31 {cI cB : ClassId} {b : Nat → Nat} {st n td nd nh pl : Nat} {bs : Int32} {kd ag bo pa dm dn hh hn pg sv : Nat → Int32} {sd : Int64} {ik : Int32} {ks ktd knd knh : Nat} {kbs : Int32} {kag kbo kpa kdm kdn khh khn : Nat → Int32} {hf : Int64} {z0 : Nat → Int32} : List.set (MW cI cB b st n td nd nh pl bs kd ag bo pa dm dn hh hn pg sv sd ik ks ktd knd knh kbs kag kbo kpa kdm kdn khh khn hf) 13 (b 13, .inl (cI, 186, .inl z0)) = MW cI cB b st n td nd nh pl bs kd ag bo pa dm dn hh hn pg sv sd ik ks ktd knd knh kbs kag kbo z0 kdm kdn khh khn hf := rfl
set_option maxRecDepth 100000 in
set_option maxHeartbeats 4000000 in
theorem c_X3_image (l : Launch) (D : va_G) (cI cB : ClassId) (aS : Nat) (b : Nat → Nat) (st n td nd nh pl : Nat) (bs : Int32) (kd ag bo pa dm dn hh hn pg sv : Nat → Int32) (sd : Int64) (ik : Int32) (ks ktd knd knh : Nat) (kbs : Int32) (kag kbo kpa kdm kdn khh khn : Nat → Int32) (hf : Int64)  (hD0 : va_D (fun _ => True) (MW cI cB b st n td nd nh pl bs kd ag bo pa dm dn hh hn pg sv sd ik ks ktd knd knh kbs kag kbo kpa kdm kdn khh khn hf)) (hn6 : n ≤ 6) : Met l yX3_image (mw yX3_image cX3_image 2 (some .int)) rm_X3_image (RP D cI cB aS (MW cI cB b st n td nd nh pl bs kd ag bo pa dm dn hh hn pg sv sd ik ks ktd knd knh kbs kag kbo kpa kdm kdn khh khn hf) [.ref (b 0)]) (wq mkI (MW cI cB b st n td nd nh pl bs kd ag bo pa dm dn hh hn pg sv sd ik ks ktd knd knh kbs kag kbo kpa kdm kdn khh khn hf) (fun (u : Bool) => cond u (MW cI cB b st n td nd nh pl bs kd ag bo pa dm dn hh hn pg sv sd (nI 1) st td nd nh bs ag bo pa dm dn hh hn hf) (MW cI cB b st n td nd nh pl bs kd ag bo pa dm dn hh hn pg sv sd ik ks ktd knd knh kbs kag kbo kpa kdm kdn khh khn hf)) D (fun (r : Int32) (u : Bool) => (¬ n = 0 ∧ r = nI td ∧ u = true) ∨ (n = 0 ∧ r = -103 ∧ u = false))) 0 0 (inW (MW cI cB b st n td nd nh pl bs kd ag bo pa dm dn hh hn pg sv sd ik ks ktd knd knh kbs kag kbo kpa kdm kdn khh khn hf)) := by
  refine met_of (by decide) (Nat.le_of_ble_eq_true rfl) ?_
  intro p e s m below meth c ls hx hb hr hml hown hg hlocks hin hK hP hl
  have hown : s.vm.findClass RX3 = some m.cls := hown
  have hl : lv_has ls 2 [(0, .ref (b 0))] := hl
  have hD := hD0.here
  have hS0 : va_S (inW (MW cI cB b st n td nd nh pl bs kd ag bo pa dm dn hh hn pg sv sd ik ks ktd knd knh kbs kag kbo kpa kdm kdn khh khn hf)) s.heap s.heap [] := va_S.rf
  obtain ⟨H, hH⟩ : ∃ H, H = s.heap := ⟨_, rfl⟩
  have hS : va_S (inW (MW cI cB b st n td nd nh pl bs kd ag bo pa dm dn hh hn pg sv sd ik ks ktd knd knh kbs kag kbo kpa kdm kdn khh khn hf)) s.heap H [] := by rw [hH]; exact hS0
  clear hS0
  rw [← hH] at hP ⊢
  generalize hAe : inW (MW cI cB b st n td nd nh pl bs kd ag bo pa dm dn hh hn pg sv sd ik ks ktd knd knh kbs kag kbo kpa kdm kdn khh khn hf) = A at hD hS ⊢
  refine lv_aload_n hx hb dX3_image_0 rfl (lv_at hl 0 rfl) ?_
  refine va_get (D := D) (ci := 3) (v := .int (nI n)) (C := RX3) (T := TX3) (N := 32) hx hb hg us_X3 hown hK.1 hP 0 MW_g0 rfl 1 (by decide) (hg _ gm_402) (fun _ h9 => h9) rfl dX3_image_1 ?_
  refine nv_if_ne (tgt := 10) hx hb dX3_image_4 (by omega) (by decide) (fun c_4 => ?_) (fun c_4 => ?_)
  · skip
    refine lv_aload_n hx hb dX3_image_10 rfl (lv_at hl 0 rfl) ?_
    refine lv_iconst (v := (nI 1)) hx hb dX3_image_11 (by decide) ?_
    refine va_put (D := D) (ci := 3) (v := .int (nI 1)) (ty := .boolean) (C := RX3) (T := TX3) (N := 32) hx hb hg us_X3 tyX3 tyX3_ok nmX3 hown hK.1 hP hD hS 0 MW_g0 rfl 18 (by decide) (hg _ gm_419) (fun _ h9 => h9) rfl (by decide +kernel) rfl rfl (Nat.le_of_ble_eq_true rfl) dX3_image_12 (fun H locs hP hD hS => ?_)
    have hP : va_P D vwCl (MW cI cB b st n td nd nh pl bs kd ag bo pa dm dn hh hn pg sv sd (nI 1) ks ktd knd knh kbs kag kbo kpa kdm kdn khh khn hf) H := P_eq hP MW_set_19
    have hD : va_D A (MW cI cB b st n td nd nh pl bs kd ag bo pa dm dn hh hn pg sv sd (nI 1) ks ktd knd knh kbs kag kbo kpa kdm kdn khh khn hf) := D_eq hD MW_set_19
    refine lv_aload_n hx hb dX3_image_15 rfl (lv_at hl 0 rfl) ?_
    refine lv_aload_n hx hb dX3_image_16 rfl (lv_at hl 0 rfl) ?_
    refine va_get (D := D) (ci := 3) (v := .int (nI st)) (C := RX3) (T := TX3) (N := 32) hx hb hg us_X3 hown hK.1 hP 0 MW_g0 rfl 0 (by decide) (hg _ gm_401) (fun _ h9 => h9) rfl dX3_image_17 ?_
    refine va_put (D := D) (ci := 3) (v := .int (nI st)) (ty := .int) (C := RX3) (T := TX3) (N := 32) hx hb hg us_X3 tyX3 tyX3_ok nmX3 hown hK.1 hP hD hS 0 MW_g0 rfl 19 (by decide) (hg _ gm_420) (fun _ h9 => h9) rfl (by decide +kernel) rfl rfl (Nat.le_of_ble_eq_true rfl) dX3_image_20 (fun H locs hP hD hS => ?_)
    have hP : va_P D vwCl (MW cI cB b st n td nd nh pl bs kd ag bo pa dm dn hh hn pg sv sd (nI 1) st ktd knd knh kbs kag kbo kpa kdm kdn khh khn hf) H := P_eq hP MW_set_20
    have hD : va_D A (MW cI cB b st n td nd nh pl bs kd ag bo pa dm dn hh hn pg sv sd (nI 1) st ktd knd knh kbs kag kbo kpa kdm kdn khh khn hf) := D_eq hD MW_set_20
    refine lv_aload_n hx hb dX3_image_23 rfl (lv_at hl 0 rfl) ?_
    refine lv_aload_n hx hb dX3_image_24 rfl (lv_at hl 0 rfl) ?_
    refine va_get (D := D) (ci := 3) (v := .int (nI td)) (C := RX3) (T := TX3) (N := 32) hx hb hg us_X3 hown hK.1 hP 0 MW_g0 rfl 6 (by decide) (hg _ gm_407) (fun _ h9 => h9) rfl dX3_image_25 ?_
    refine va_put (D := D) (ci := 3) (v := .int (nI td)) (ty := .int) (C := RX3) (T := TX3) (N := 32) hx hb hg us_X3 tyX3 tyX3_ok nmX3 hown hK.1 hP hD hS 0 MW_g0 rfl 20 (by decide) (hg _ gm_421) (fun _ h9 => h9) rfl (by decide +kernel) rfl rfl (Nat.le_of_ble_eq_true rfl) dX3_image_28 (fun H locs hP hD hS => ?_)
    have hP : va_P D vwCl (MW cI cB b st n td nd nh pl bs kd ag bo pa dm dn hh hn pg sv sd (nI 1) st td knd knh kbs kag kbo kpa kdm kdn khh khn hf) H := P_eq hP MW_set_21
    have hD : va_D A (MW cI cB b st n td nd nh pl bs kd ag bo pa dm dn hh hn pg sv sd (nI 1) st td knd knh kbs kag kbo kpa kdm kdn khh khn hf) := D_eq hD MW_set_21
    refine lv_aload_n hx hb dX3_image_31 rfl (lv_at hl 0 rfl) ?_
    refine lv_aload_n hx hb dX3_image_32 rfl (lv_at hl 0 rfl) ?_
    refine va_get (D := D) (ci := 3) (v := .int bs) (C := RX3) (T := TX3) (N := 32) hx hb hg us_X3 hown hK.1 hP 0 MW_g0 rfl 7 (by decide) (hg _ gm_408) (fun _ h9 => h9) rfl dX3_image_33 ?_
    refine va_put (D := D) (ci := 3) (v := .int bs) (ty := .int) (C := RX3) (T := TX3) (N := 32) hx hb hg us_X3 tyX3 tyX3_ok nmX3 hown hK.1 hP hD hS 0 MW_g0 rfl 21 (by decide) (hg _ gm_422) (fun _ h9 => h9) rfl (by decide +kernel) rfl rfl (Nat.le_of_ble_eq_true rfl) dX3_image_36 (fun H locs hP hD hS => ?_)
    have hP : va_P D vwCl (MW cI cB b st n td nd nh pl bs kd ag bo pa dm dn hh hn pg sv sd (nI 1) st td knd knh bs kag kbo kpa kdm kdn khh khn hf) H := P_eq hP MW_set_22
    have hD : va_D A (MW cI cB b st n td nd nh pl bs kd ag bo pa dm dn hh hn pg sv sd (nI 1) st td knd knh bs kag kbo kpa kdm kdn khh khn hf) := D_eq hD MW_set_22
    refine lv_aload_n hx hb dX3_image_39 rfl (lv_at hl 0 rfl) ?_
    refine lv_aload_n hx hb dX3_image_40 rfl (lv_at hl 0 rfl) ?_
    refine va_get (D := D) (ci := 3) (v := .int (nI nd)) (C := RX3) (T := TX3) (N := 32) hx hb hg us_X3 hown hK.1 hP 0 MW_g0 rfl 8 (by decide) (hg _ gm_409) (fun _ h9 => h9) rfl dX3_image_41 ?_
    refine va_put (D := D) (ci := 3) (v := .int (nI nd)) (ty := .int) (C := RX3) (T := TX3) (N := 32) hx hb hg us_X3 tyX3 tyX3_ok nmX3 hown hK.1 hP hD hS 0 MW_g0 rfl 22 (by decide) (hg _ gm_423) (fun _ h9 => h9) rfl (by decide +kernel) rfl rfl (Nat.le_of_ble_eq_true rfl) dX3_image_44 (fun H locs hP hD hS => ?_)
    have hP : va_P D vwCl (MW cI cB b st n td nd nh pl bs kd ag bo pa dm dn hh hn pg sv sd (nI 1) st td nd knh bs kag kbo kpa kdm kdn khh khn hf) H := P_eq hP MW_set_23
    have hD : va_D A (MW cI cB b st n td nd nh pl bs kd ag bo pa dm dn hh hn pg sv sd (nI 1) st td nd knh bs kag kbo kpa kdm kdn khh khn hf) := D_eq hD MW_set_23
    refine lv_aload_n hx hb dX3_image_47 rfl (lv_at hl 0 rfl) ?_
    refine lv_aload_n hx hb dX3_image_48 rfl (lv_at hl 0 rfl) ?_
    refine va_get (D := D) (ci := 3) (v := .int (nI nh)) (C := RX3) (T := TX3) (N := 32) hx hb hg us_X3 hown hK.1 hP 0 MW_g0 rfl 11 (by decide) (hg _ gm_412) (fun _ h9 => h9) rfl dX3_image_49 ?_
    refine va_put (D := D) (ci := 3) (v := .int (nI nh)) (ty := .int) (C := RX3) (T := TX3) (N := 32) hx hb hg us_X3 tyX3 tyX3_ok nmX3 hown hK.1 hP hD hS 0 MW_g0 rfl 23 (by decide) (hg _ gm_424) (fun _ h9 => h9) rfl (by decide +kernel) rfl rfl (Nat.le_of_ble_eq_true rfl) dX3_image_52 (fun H locs hP hD hS => ?_)
    have hP : va_P D vwCl (MW cI cB b st n td nd nh pl bs kd ag bo pa dm dn hh hn pg sv sd (nI 1) st td nd nh bs kag kbo kpa kdm kdn khh khn hf) H := P_eq hP MW_set_24
    have hD : va_D A (MW cI cB b st n td nd nh pl bs kd ag bo pa dm dn hh hn pg sv sd (nI 1) st td nd nh bs kag kbo kpa kdm kdn khh khn hf) := D_eq hD MW_set_24
    refine lv_iconst (v := (nI 0)) hx hb dX3_image_55 (by decide) ?_
    refine lv_istore_n (lv' := [(1, .int (nI 0)), (0, .ref (b 0))]) hx hb dX3_image_56 rfl hl (by decide) rfl (fun ls hl => ?_)
    -- loop at 57
    refine loopW (nL := 2) (S := Unit) (B := 6) (I := fun i u => True) (lv := fun i u => [(0, .ref (b 0)), (1, .int (nI i))]) (wf := fun i u => MW cI cB b st n td nd nh pl bs kd ag bo pa dm dn hh hn pg sv sd (nI 1) st td nd nh bs (cpF ag kag i) (cpF bo kbo i) kpa (cpF dm kdm i) (cpF dn kdn i) (cpF hh khh i) (cpF hn khn i) hf) 0 () (Nat.zero_le _) (trivial) (lv_sub hl [1, 0] rfl) (by show va_P D vwCl (MW cI cB b st n td nd nh pl bs kd ag bo pa dm dn hh hn pg sv sd (nI 1) st td nd nh bs (cpF ag kag 0) (cpF bo kbo 0) kpa (cpF dm kdm 0) (cpF dn kdn 0) (cpF hh khh 0) (cpF hn khn 0) hf) H; rw [cpF_0, cpF_0, cpF_0, cpF_0, cpF_0, cpF_0]; exact hP) (hD.addr (MW_addr.trans MW_addr.symm)) hS (fun i u ls H locs hj hI hl hP hD hS ih => ?_)
    have hP : va_P D vwCl (MW cI cB b st n td nd nh pl bs kd ag bo pa dm dn hh hn pg sv sd (nI 1) st td nd nh bs (cpF ag kag i) (cpF bo kbo i) kpa (cpF dm kdm i) (cpF dn kdn i) (cpF hh khh i) (cpF hn khn i) hf) H := hP
    have hD : va_D A (MW cI cB b st n td nd nh pl bs kd ag bo pa dm dn hh hn pg sv sd (nI 1) st td nd nh bs (cpF ag kag i) (cpF bo kbo i) kpa (cpF dm kdm i) (cpF dn kdn i) (cpF hh khh i) (cpF hn khn i) hf) := hD
    have hl : lv_has ls 2 [(0, .ref (b 0)), (1, .int (nI i))] := hl
    have ih_57 := ih
    refine lv_iload_n hx hb dX3_image_57 rfl (lv_at hl 1 rfl) ?_
    refine lv_bipush (v := (nI 6)) hx hb dX3_image_58 (by decide) ?_
    refine nv_icmp_ge (tgt := 141) hx hb dX3_image_60 (by omega) (by omega) (by decide) (fun c_60 => ?_) (fun c_60 => ?_)
    · skip
      have hP : va_P D vwCl (MW cI cB b st n td nd nh pl bs kd ag bo pa dm dn hh hn pg sv sd (nI 1) st td nd nh bs ag (cpF bo kbo i) kpa (cpF dm kdm i) (cpF dn kdn i) (cpF hh khh i) (cpF hn khn i) hf) H := P_eq (P_congr (g := ag) hP 11 MW_g11 (fun j hj => cpF_at (by omega))) MW_set_25
      have hD : va_D A (MW cI cB b st n td nd nh pl bs kd ag bo pa dm dn hh hn pg sv sd (nI 1) st td nd nh bs ag (cpF bo kbo i) kpa (cpF dm kdm i) (cpF dn kdn i) (cpF hh khh i) (cpF hn khn i) hf) := hD.addr (MW_addr.trans MW_addr.symm)
      have hP : va_P D vwCl (MW cI cB b st n td nd nh pl bs kd ag bo pa dm dn hh hn pg sv sd (nI 1) st td nd nh bs ag bo kpa (cpF dm kdm i) (cpF dn kdn i) (cpF hh khh i) (cpF hn khn i) hf) H := P_eq (P_congr (g := bo) hP 12 MW_g12 (fun j hj => cpF_at (by omega))) MW_set_26
      have hD : va_D A (MW cI cB b st n td nd nh pl bs kd ag bo pa dm dn hh hn pg sv sd (nI 1) st td nd nh bs ag bo kpa (cpF dm kdm i) (cpF dn kdn i) (cpF hh khh i) (cpF hn khn i) hf) := hD.addr (MW_addr.trans MW_addr.symm)
      have hP : va_P D vwCl (MW cI cB b st n td nd nh pl bs kd ag bo pa dm dn hh hn pg sv sd (nI 1) st td nd nh bs ag bo kpa dm (cpF dn kdn i) (cpF hh khh i) (cpF hn khn i) hf) H := P_eq (P_congr (g := dm) hP 14 MW_g14 (fun j hj => cpF_at (by omega))) MW_set_27
      have hD : va_D A (MW cI cB b st n td nd nh pl bs kd ag bo pa dm dn hh hn pg sv sd (nI 1) st td nd nh bs ag bo kpa dm (cpF dn kdn i) (cpF hh khh i) (cpF hn khn i) hf) := hD.addr (MW_addr.trans MW_addr.symm)
      have hP : va_P D vwCl (MW cI cB b st n td nd nh pl bs kd ag bo pa dm dn hh hn pg sv sd (nI 1) st td nd nh bs ag bo kpa dm dn (cpF hh khh i) (cpF hn khn i) hf) H := P_eq (P_congr (g := dn) hP 15 MW_g15 (fun j hj => cpF_at (by omega))) MW_set_28
      have hD : va_D A (MW cI cB b st n td nd nh pl bs kd ag bo pa dm dn hh hn pg sv sd (nI 1) st td nd nh bs ag bo kpa dm dn (cpF hh khh i) (cpF hn khn i) hf) := hD.addr (MW_addr.trans MW_addr.symm)
      have hP : va_P D vwCl (MW cI cB b st n td nd nh pl bs kd ag bo pa dm dn hh hn pg sv sd (nI 1) st td nd nh bs ag bo kpa dm dn hh (cpF hn khn i) hf) H := P_eq (P_congr (g := hh) hP 16 MW_g16 (fun j hj => cpF_at (by omega))) MW_set_29
      have hD : va_D A (MW cI cB b st n td nd nh pl bs kd ag bo pa dm dn hh hn pg sv sd (nI 1) st td nd nh bs ag bo kpa dm dn hh (cpF hn khn i) hf) := hD.addr (MW_addr.trans MW_addr.symm)
      have hP : va_P D vwCl (MW cI cB b st n td nd nh pl bs kd ag bo pa dm dn hh hn pg sv sd (nI 1) st td nd nh bs ag bo kpa dm dn hh hn hf) H := P_eq (P_congr (g := hn) hP 17 MW_g17 (fun j hj => cpF_at (by omega))) MW_set_30
      have hD : va_D A (MW cI cB b st n td nd nh pl bs kd ag bo pa dm dn hh hn pg sv sd (nI 1) st td nd nh bs ag bo kpa dm dn hh hn hf) := hD.addr (MW_addr.trans MW_addr.symm)
      refine lv_iconst (v := (nI 0)) hx hb dX3_image_141 (by decide) ?_
      refine lv_istore_n (lv' := [(1, .int (nI 0)), (0, .ref (b 0))]) hx hb dX3_image_142 rfl hl (by decide) rfl (fun ls hl => ?_)
      -- loop at 143
      refine loopW (nL := 2) (S := Unit) (B := 186) (I := fun i u => True) (lv := fun i u => [(0, .ref (b 0)), (1, .int (nI i))]) (wf := fun i u => MW cI cB b st n td nd nh pl bs kd ag bo pa dm dn hh hn pg sv sd (nI 1) st td nd nh bs ag bo (cpF pa kpa i) dm dn hh hn hf) 0 () (Nat.zero_le _) (trivial) (lv_sub hl [1, 0] rfl) (by show va_P D vwCl (MW cI cB b st n td nd nh pl bs kd ag bo pa dm dn hh hn pg sv sd (nI 1) st td nd nh bs ag bo (cpF pa kpa 0) dm dn hh hn hf) H; rw [cpF_0]; exact hP) (hD.addr (MW_addr.trans MW_addr.symm)) hS (fun i u ls H locs hj hI hl hP hD hS ih => ?_)
      have hP : va_P D vwCl (MW cI cB b st n td nd nh pl bs kd ag bo pa dm dn hh hn pg sv sd (nI 1) st td nd nh bs ag bo (cpF pa kpa i) dm dn hh hn hf) H := hP
      have hD : va_D A (MW cI cB b st n td nd nh pl bs kd ag bo pa dm dn hh hn pg sv sd (nI 1) st td nd nh bs ag bo (cpF pa kpa i) dm dn hh hn hf) := hD
      have hl : lv_has ls 2 [(0, .ref (b 0)), (1, .int (nI i))] := hl
      have ih_143 := ih
      refine lv_iload_n hx hb dX3_image_143 rfl (lv_at hl 1 rfl) ?_
      refine lv_sipush (v := (nI 186)) hx hb dX3_image_144 (by decide) ?_
      refine nv_icmp_ge (tgt := 168) hx hb dX3_image_147 (by omega) (by omega) (by decide) (fun c_147 => ?_) (fun c_147 => ?_)
      · skip
        have hP : va_P D vwCl (MW cI cB b st n td nd nh pl bs kd ag bo pa dm dn hh hn pg sv sd (nI 1) st td nd nh bs ag bo pa dm dn hh hn hf) H := P_eq (P_congr (g := pa) hP 13 MW_g13 (fun j hj => cpF_at (by omega))) MW_set_31
        have hD : va_D A (MW cI cB b st n td nd nh pl bs kd ag bo pa dm dn hh hn pg sv sd (nI 1) st td nd nh bs ag bo pa dm dn hh hn hf) := hD.addr (MW_addr.trans MW_addr.symm)
        refine lv_aload_n hx hb dX3_image_168 rfl (lv_at hl 0 rfl) ?_
        refine va_get (D := D) (ci := 3) (v := .int (nI td)) (C := RX3) (T := TX3) (N := 32) hx hb hg us_X3 hown hK.1 hP 0 MW_g0 rfl 6 (by decide) (hg _ gm_407) (fun _ h9 => h9) rfl dX3_image_169 ?_
        subst hAe
        exact wr_i (w1 := fun (u : Bool) => cond u (MW cI cB b st n td nd nh pl bs kd ag bo pa dm dn hh hn pg sv sd (nI 1) st td nd nh bs ag bo pa dm dn hh hn hf) (MW cI cB b st n td nd nh pl bs kd ag bo pa dm dn hh hn pg sv sd ik ks ktd knd knh kbs kag kbo kpa kdm kdn khh khn hf)) hx hb hr hlocks hS true hP dX3_image_172 (Or.inl ⟨c_4, rfl, rfl⟩)
      · skip
        refine lv_aload_n hx hb dX3_image_150 rfl (lv_at hl 0 rfl) ?_
        refine va_get (D := D) (ci := 3) (v := .ref (b 13)) (C := RX3) (T := TX3) (N := 32) hx hb hg us_X3 hown hK.1 hP 0 MW_g0 rfl 26 (by decide) (hg _ gm_427) (fun _ h9 => h9) rfl dX3_image_151 ?_
        refine lv_iload_n hx hb dX3_image_154 rfl (lv_at hl 1 rfl) ?_
        refine lv_aload_n hx hb dX3_image_155 rfl (lv_at hl 0 rfl) ?_
        refine va_get (D := D) (ci := 3) (v := .ref (b 4)) (C := RX3) (T := TX3) (N := 32) hx hb hg us_X3 hown hK.1 hP 0 MW_g0 rfl 5 (by decide) (hg _ gm_406) (fun _ h9 => h9) rfl dX3_image_156 ?_
        refine lv_iload_n hx hb dX3_image_159 rfl (lv_at hl 1 rfl) ?_
        refine nv_iald hx hb hK.1 hP 4 0 MW_g4 rfl (by omega) (by omega) dX3_image_160 ?_
        refine nv_iast hx hb hK.1 hP hD hS 13 0 MW_g13 rfl (by omega) (by omega) dX3_image_161 (fun H locs hP hD hS => ?_)
        have hP : va_P D vwCl (MW cI cB b st n td nd nh pl bs kd ag bo pa dm dn hh hn pg sv sd (nI 1) st td nd nh bs ag bo (upd (cpF pa kpa i) i (pa i)) dm dn hh hn hf) H := P_eq hP MW_set_31
        have hD : va_D A (MW cI cB b st n td nd nh pl bs kd ag bo pa dm dn hh hn pg sv sd (nI 1) st td nd nh bs ag bo (upd (cpF pa kpa i) i (pa i)) dm dn hh hn hf) := D_eq hD MW_set_31
        have e_1 : upd (cpF pa kpa i) i (pa i) = cpF pa kpa (i + 1) := cpF_s rfl
        rw [e_1] at hP hD
        have hP : va_P D vwCl (MW cI cB b st n td nd nh pl bs kd ag bo pa dm dn hh hn pg sv sd (nI 1) st td nd nh bs ag bo (cpF pa kpa (i + 1)) dm dn hh hn hf) H := hP
        have hD : va_D A (MW cI cB b st n td nd nh pl bs kd ag bo pa dm dn hh hn pg sv sd (nI 1) st td nd nh bs ag bo (cpF pa kpa (i + 1)) dm dn hh hn hf) := hD
        refine lv_iinc (v := (nI (i + 1))) (lv' := [(1, .int (nI (i + 1))), (0, .ref (b 0))]) hx hb dX3_image_162 hl (k := 1) rfl (nI_i1 _) (by decide) rfl (fun ls hl => ?_)
        refine lv_goto (tgt := 143) hx hb dX3_image_165 (by decide) ?_
        exact ih_143 () _ _ _ (by omega) (trivial) (lv_sub hl [1, 0] rfl) hP (hD.addr (MW_addr.trans MW_addr.symm)) hS
    · skip
      refine lv_aload_n hx hb dX3_image_63 rfl (lv_at hl 0 rfl) ?_
      refine va_get (D := D) (ci := 3) (v := .ref (b 11)) (C := RX3) (T := TX3) (N := 32) hx hb hg us_X3 hown hK.1 hP 0 MW_g0 rfl 24 (by decide) (hg _ gm_425) (fun _ h9 => h9) rfl dX3_image_64 ?_
      refine lv_iload_n hx hb dX3_image_67 rfl (lv_at hl 1 rfl) ?_
      refine lv_aload_n hx hb dX3_image_68 rfl (lv_at hl 0 rfl) ?_
      refine va_get (D := D) (ci := 3) (v := .ref (b 2)) (C := RX3) (T := TX3) (N := 32) hx hb hg us_X3 hown hK.1 hP 0 MW_g0 rfl 3 (by decide) (hg _ gm_404) (fun _ h9 => h9) rfl dX3_image_69 ?_
      refine lv_iload_n hx hb dX3_image_72 rfl (lv_at hl 1 rfl) ?_
      refine nv_iald hx hb hK.1 hP 2 0 MW_g2 rfl (by omega) (by omega) dX3_image_73 ?_
      refine nv_iast hx hb hK.1 hP hD hS 11 0 MW_g11 rfl (by omega) (by omega) dX3_image_74 (fun H locs hP hD hS => ?_)
      have hP : va_P D vwCl (MW cI cB b st n td nd nh pl bs kd ag bo pa dm dn hh hn pg sv sd (nI 1) st td nd nh bs (upd (cpF ag kag i) i (ag i)) (cpF bo kbo i) kpa (cpF dm kdm i) (cpF dn kdn i) (cpF hh khh i) (cpF hn khn i) hf) H := P_eq hP MW_set_25
      have hD : va_D A (MW cI cB b st n td nd nh pl bs kd ag bo pa dm dn hh hn pg sv sd (nI 1) st td nd nh bs (upd (cpF ag kag i) i (ag i)) (cpF bo kbo i) kpa (cpF dm kdm i) (cpF dn kdn i) (cpF hh khh i) (cpF hn khn i) hf) := D_eq hD MW_set_25
      have e_2 : upd (cpF ag kag i) i (ag i) = cpF ag kag (i + 1) := cpF_s rfl
      rw [e_2] at hP hD
      have hP : va_P D vwCl (MW cI cB b st n td nd nh pl bs kd ag bo pa dm dn hh hn pg sv sd (nI 1) st td nd nh bs (cpF ag kag (i + 1)) (cpF bo kbo i) kpa (cpF dm kdm i) (cpF dn kdn i) (cpF hh khh i) (cpF hn khn i) hf) H := hP
      have hD : va_D A (MW cI cB b st n td nd nh pl bs kd ag bo pa dm dn hh hn pg sv sd (nI 1) st td nd nh bs (cpF ag kag (i + 1)) (cpF bo kbo i) kpa (cpF dm kdm i) (cpF dn kdn i) (cpF hh khh i) (cpF hn khn i) hf) := hD
      refine lv_aload_n hx hb dX3_image_75 rfl (lv_at hl 0 rfl) ?_
      refine va_get (D := D) (ci := 3) (v := .ref (b 12)) (C := RX3) (T := TX3) (N := 32) hx hb hg us_X3 hown hK.1 hP 0 MW_g0 rfl 25 (by decide) (hg _ gm_426) (fun _ h9 => h9) rfl dX3_image_76 ?_
      refine lv_iload_n hx hb dX3_image_79 rfl (lv_at hl 1 rfl) ?_
      refine lv_aload_n hx hb dX3_image_80 rfl (lv_at hl 0 rfl) ?_
      refine va_get (D := D) (ci := 3) (v := .ref (b 3)) (C := RX3) (T := TX3) (N := 32) hx hb hg us_X3 hown hK.1 hP 0 MW_g0 rfl 4 (by decide) (hg _ gm_405) (fun _ h9 => h9) rfl dX3_image_81 ?_
      refine lv_iload_n hx hb dX3_image_84 rfl (lv_at hl 1 rfl) ?_
      refine nv_iald hx hb hK.1 hP 3 0 MW_g3 rfl (by omega) (by omega) dX3_image_85 ?_
      refine nv_iast hx hb hK.1 hP hD hS 12 0 MW_g12 rfl (by omega) (by omega) dX3_image_86 (fun H locs hP hD hS => ?_)
      have hP : va_P D vwCl (MW cI cB b st n td nd nh pl bs kd ag bo pa dm dn hh hn pg sv sd (nI 1) st td nd nh bs (cpF ag kag (i + 1)) (upd (cpF bo kbo i) i (bo i)) kpa (cpF dm kdm i) (cpF dn kdn i) (cpF hh khh i) (cpF hn khn i) hf) H := P_eq hP MW_set_26
      have hD : va_D A (MW cI cB b st n td nd nh pl bs kd ag bo pa dm dn hh hn pg sv sd (nI 1) st td nd nh bs (cpF ag kag (i + 1)) (upd (cpF bo kbo i) i (bo i)) kpa (cpF dm kdm i) (cpF dn kdn i) (cpF hh khh i) (cpF hn khn i) hf) := D_eq hD MW_set_26
      have e_3 : upd (cpF bo kbo i) i (bo i) = cpF bo kbo (i + 1) := cpF_s rfl
      rw [e_3] at hP hD
      have hP : va_P D vwCl (MW cI cB b st n td nd nh pl bs kd ag bo pa dm dn hh hn pg sv sd (nI 1) st td nd nh bs (cpF ag kag (i + 1)) (cpF bo kbo (i + 1)) kpa (cpF dm kdm i) (cpF dn kdn i) (cpF hh khh i) (cpF hn khn i) hf) H := hP
      have hD : va_D A (MW cI cB b st n td nd nh pl bs kd ag bo pa dm dn hh hn pg sv sd (nI 1) st td nd nh bs (cpF ag kag (i + 1)) (cpF bo kbo (i + 1)) kpa (cpF dm kdm i) (cpF dn kdn i) (cpF hh khh i) (cpF hn khn i) hf) := hD
      refine lv_aload_n hx hb dX3_image_87 rfl (lv_at hl 0 rfl) ?_
      refine va_get (D := D) (ci := 3) (v := .ref (b 14)) (C := RX3) (T := TX3) (N := 32) hx hb hg us_X3 hown hK.1 hP 0 MW_g0 rfl 27 (by decide) (hg _ gm_428) (fun _ h9 => h9) rfl dX3_image_88 ?_
      refine lv_iload_n hx hb dX3_image_91 rfl (lv_at hl 1 rfl) ?_
      refine lv_aload_n hx hb dX3_image_92 rfl (lv_at hl 0 rfl) ?_
      refine va_get (D := D) (ci := 3) (v := .ref (b 5)) (C := RX3) (T := TX3) (N := 32) hx hb hg us_X3 hown hK.1 hP 0 MW_g0 rfl 9 (by decide) (hg _ gm_410) (fun _ h9 => h9) rfl dX3_image_93 ?_
      refine lv_iload_n hx hb dX3_image_96 rfl (lv_at hl 1 rfl) ?_
      refine nv_iald hx hb hK.1 hP 5 0 MW_g5 rfl (by omega) (by omega) dX3_image_97 ?_
      refine nv_iast hx hb hK.1 hP hD hS 14 0 MW_g14 rfl (by omega) (by omega) dX3_image_98 (fun H locs hP hD hS => ?_)
      have hP : va_P D vwCl (MW cI cB b st n td nd nh pl bs kd ag bo pa dm dn hh hn pg sv sd (nI 1) st td nd nh bs (cpF ag kag (i + 1)) (cpF bo kbo (i + 1)) kpa (upd (cpF dm kdm i) i (dm i)) (cpF dn kdn i) (cpF hh khh i) (cpF hn khn i) hf) H := P_eq hP MW_set_27
      have hD : va_D A (MW cI cB b st n td nd nh pl bs kd ag bo pa dm dn hh hn pg sv sd (nI 1) st td nd nh bs (cpF ag kag (i + 1)) (cpF bo kbo (i + 1)) kpa (upd (cpF dm kdm i) i (dm i)) (cpF dn kdn i) (cpF hh khh i) (cpF hn khn i) hf) := D_eq hD MW_set_27
      have e_4 : upd (cpF dm kdm i) i (dm i) = cpF dm kdm (i + 1) := cpF_s rfl
      rw [e_4] at hP hD
      have hP : va_P D vwCl (MW cI cB b st n td nd nh pl bs kd ag bo pa dm dn hh hn pg sv sd (nI 1) st td nd nh bs (cpF ag kag (i + 1)) (cpF bo kbo (i + 1)) kpa (cpF dm kdm (i + 1)) (cpF dn kdn i) (cpF hh khh i) (cpF hn khn i) hf) H := hP
      have hD : va_D A (MW cI cB b st n td nd nh pl bs kd ag bo pa dm dn hh hn pg sv sd (nI 1) st td nd nh bs (cpF ag kag (i + 1)) (cpF bo kbo (i + 1)) kpa (cpF dm kdm (i + 1)) (cpF dn kdn i) (cpF hh khh i) (cpF hn khn i) hf) := hD
      refine lv_aload_n hx hb dX3_image_99 rfl (lv_at hl 0 rfl) ?_
      refine va_get (D := D) (ci := 3) (v := .ref (b 15)) (C := RX3) (T := TX3) (N := 32) hx hb hg us_X3 hown hK.1 hP 0 MW_g0 rfl 28 (by decide) (hg _ gm_429) (fun _ h9 => h9) rfl dX3_image_100 ?_
      refine lv_iload_n hx hb dX3_image_103 rfl (lv_at hl 1 rfl) ?_
      refine lv_aload_n hx hb dX3_image_104 rfl (lv_at hl 0 rfl) ?_
      refine va_get (D := D) (ci := 3) (v := .ref (b 6)) (C := RX3) (T := TX3) (N := 32) hx hb hg us_X3 hown hK.1 hP 0 MW_g0 rfl 10 (by decide) (hg _ gm_411) (fun _ h9 => h9) rfl dX3_image_105 ?_
      refine lv_iload_n hx hb dX3_image_108 rfl (lv_at hl 1 rfl) ?_
      refine nv_iald hx hb hK.1 hP 6 0 MW_g6 rfl (by omega) (by omega) dX3_image_109 ?_
      refine nv_iast hx hb hK.1 hP hD hS 15 0 MW_g15 rfl (by omega) (by omega) dX3_image_110 (fun H locs hP hD hS => ?_)
      have hP : va_P D vwCl (MW cI cB b st n td nd nh pl bs kd ag bo pa dm dn hh hn pg sv sd (nI 1) st td nd nh bs (cpF ag kag (i + 1)) (cpF bo kbo (i + 1)) kpa (cpF dm kdm (i + 1)) (upd (cpF dn kdn i) i (dn i)) (cpF hh khh i) (cpF hn khn i) hf) H := P_eq hP MW_set_28
      have hD : va_D A (MW cI cB b st n td nd nh pl bs kd ag bo pa dm dn hh hn pg sv sd (nI 1) st td nd nh bs (cpF ag kag (i + 1)) (cpF bo kbo (i + 1)) kpa (cpF dm kdm (i + 1)) (upd (cpF dn kdn i) i (dn i)) (cpF hh khh i) (cpF hn khn i) hf) := D_eq hD MW_set_28
      have e_5 : upd (cpF dn kdn i) i (dn i) = cpF dn kdn (i + 1) := cpF_s rfl
      rw [e_5] at hP hD
      have hP : va_P D vwCl (MW cI cB b st n td nd nh pl bs kd ag bo pa dm dn hh hn pg sv sd (nI 1) st td nd nh bs (cpF ag kag (i + 1)) (cpF bo kbo (i + 1)) kpa (cpF dm kdm (i + 1)) (cpF dn kdn (i + 1)) (cpF hh khh i) (cpF hn khn i) hf) H := hP
      have hD : va_D A (MW cI cB b st n td nd nh pl bs kd ag bo pa dm dn hh hn pg sv sd (nI 1) st td nd nh bs (cpF ag kag (i + 1)) (cpF bo kbo (i + 1)) kpa (cpF dm kdm (i + 1)) (cpF dn kdn (i + 1)) (cpF hh khh i) (cpF hn khn i) hf) := hD
      refine lv_aload_n hx hb dX3_image_111 rfl (lv_at hl 0 rfl) ?_
      refine va_get (D := D) (ci := 3) (v := .ref (b 16)) (C := RX3) (T := TX3) (N := 32) hx hb hg us_X3 hown hK.1 hP 0 MW_g0 rfl 29 (by decide) (hg _ gm_430) (fun _ h9 => h9) rfl dX3_image_112 ?_
      refine lv_iload_n hx hb dX3_image_115 rfl (lv_at hl 1 rfl) ?_
      refine lv_aload_n hx hb dX3_image_116 rfl (lv_at hl 0 rfl) ?_
      refine va_get (D := D) (ci := 3) (v := .ref (b 7)) (C := RX3) (T := TX3) (N := 32) hx hb hg us_X3 hown hK.1 hP 0 MW_g0 rfl 12 (by decide) (hg _ gm_413) (fun _ h9 => h9) rfl dX3_image_117 ?_
      refine lv_iload_n hx hb dX3_image_120 rfl (lv_at hl 1 rfl) ?_
      refine nv_iald hx hb hK.1 hP 7 0 MW_g7 rfl (by omega) (by omega) dX3_image_121 ?_
      refine nv_iast hx hb hK.1 hP hD hS 16 0 MW_g16 rfl (by omega) (by omega) dX3_image_122 (fun H locs hP hD hS => ?_)
      have hP : va_P D vwCl (MW cI cB b st n td nd nh pl bs kd ag bo pa dm dn hh hn pg sv sd (nI 1) st td nd nh bs (cpF ag kag (i + 1)) (cpF bo kbo (i + 1)) kpa (cpF dm kdm (i + 1)) (cpF dn kdn (i + 1)) (upd (cpF hh khh i) i (hh i)) (cpF hn khn i) hf) H := P_eq hP MW_set_29
      have hD : va_D A (MW cI cB b st n td nd nh pl bs kd ag bo pa dm dn hh hn pg sv sd (nI 1) st td nd nh bs (cpF ag kag (i + 1)) (cpF bo kbo (i + 1)) kpa (cpF dm kdm (i + 1)) (cpF dn kdn (i + 1)) (upd (cpF hh khh i) i (hh i)) (cpF hn khn i) hf) := D_eq hD MW_set_29
      have e_6 : upd (cpF hh khh i) i (hh i) = cpF hh khh (i + 1) := cpF_s rfl
      rw [e_6] at hP hD
      have hP : va_P D vwCl (MW cI cB b st n td nd nh pl bs kd ag bo pa dm dn hh hn pg sv sd (nI 1) st td nd nh bs (cpF ag kag (i + 1)) (cpF bo kbo (i + 1)) kpa (cpF dm kdm (i + 1)) (cpF dn kdn (i + 1)) (cpF hh khh (i + 1)) (cpF hn khn i) hf) H := hP
      have hD : va_D A (MW cI cB b st n td nd nh pl bs kd ag bo pa dm dn hh hn pg sv sd (nI 1) st td nd nh bs (cpF ag kag (i + 1)) (cpF bo kbo (i + 1)) kpa (cpF dm kdm (i + 1)) (cpF dn kdn (i + 1)) (cpF hh khh (i + 1)) (cpF hn khn i) hf) := hD
      refine lv_aload_n hx hb dX3_image_123 rfl (lv_at hl 0 rfl) ?_
      refine va_get (D := D) (ci := 3) (v := .ref (b 17)) (C := RX3) (T := TX3) (N := 32) hx hb hg us_X3 hown hK.1 hP 0 MW_g0 rfl 30 (by decide) (hg _ gm_431) (fun _ h9 => h9) rfl dX3_image_124 ?_
      refine lv_iload_n hx hb dX3_image_127 rfl (lv_at hl 1 rfl) ?_
      refine lv_aload_n hx hb dX3_image_128 rfl (lv_at hl 0 rfl) ?_
      refine va_get (D := D) (ci := 3) (v := .ref (b 8)) (C := RX3) (T := TX3) (N := 32) hx hb hg us_X3 hown hK.1 hP 0 MW_g0 rfl 13 (by decide) (hg _ gm_414) (fun _ h9 => h9) rfl dX3_image_129 ?_
      refine lv_iload_n hx hb dX3_image_132 rfl (lv_at hl 1 rfl) ?_
      refine nv_iald hx hb hK.1 hP 8 0 MW_g8 rfl (by omega) (by omega) dX3_image_133 ?_
      refine nv_iast hx hb hK.1 hP hD hS 17 0 MW_g17 rfl (by omega) (by omega) dX3_image_134 (fun H locs hP hD hS => ?_)
      have hP : va_P D vwCl (MW cI cB b st n td nd nh pl bs kd ag bo pa dm dn hh hn pg sv sd (nI 1) st td nd nh bs (cpF ag kag (i + 1)) (cpF bo kbo (i + 1)) kpa (cpF dm kdm (i + 1)) (cpF dn kdn (i + 1)) (cpF hh khh (i + 1)) (upd (cpF hn khn i) i (hn i)) hf) H := P_eq hP MW_set_30
      have hD : va_D A (MW cI cB b st n td nd nh pl bs kd ag bo pa dm dn hh hn pg sv sd (nI 1) st td nd nh bs (cpF ag kag (i + 1)) (cpF bo kbo (i + 1)) kpa (cpF dm kdm (i + 1)) (cpF dn kdn (i + 1)) (cpF hh khh (i + 1)) (upd (cpF hn khn i) i (hn i)) hf) := D_eq hD MW_set_30
      have e_7 : upd (cpF hn khn i) i (hn i) = cpF hn khn (i + 1) := cpF_s rfl
      rw [e_7] at hP hD
      have hP : va_P D vwCl (MW cI cB b st n td nd nh pl bs kd ag bo pa dm dn hh hn pg sv sd (nI 1) st td nd nh bs (cpF ag kag (i + 1)) (cpF bo kbo (i + 1)) kpa (cpF dm kdm (i + 1)) (cpF dn kdn (i + 1)) (cpF hh khh (i + 1)) (cpF hn khn (i + 1)) hf) H := hP
      have hD : va_D A (MW cI cB b st n td nd nh pl bs kd ag bo pa dm dn hh hn pg sv sd (nI 1) st td nd nh bs (cpF ag kag (i + 1)) (cpF bo kbo (i + 1)) kpa (cpF dm kdm (i + 1)) (cpF dn kdn (i + 1)) (cpF hh khh (i + 1)) (cpF hn khn (i + 1)) hf) := hD
      refine lv_iinc (v := (nI (i + 1))) (lv' := [(1, .int (nI (i + 1))), (0, .ref (b 0))]) hx hb dX3_image_135 hl (k := 1) rfl (nI_i1 _) (by decide) rfl (fun ls hl => ?_)
      refine lv_goto (tgt := 57) hx hb dX3_image_138 (by decide) ?_
      exact ih_57 () _ _ _ (by omega) (trivial) (lv_sub hl [1, 0] rfl) hP (hD.addr (MW_addr.trans MW_addr.symm)) hS
  · skip
    refine lv_bipush (v := (-103)) hx hb dX3_image_7 (by decide) ?_
    subst hAe
    exact wr_i (w1 := fun (u : Bool) => cond u (MW cI cB b st n td nd nh pl bs kd ag bo pa dm dn hh hn pg sv sd (nI 1) st td nd nh bs ag bo pa dm dn hh hn hf) (MW cI cB b st n td nd nh pl bs kd ag bo pa dm dn hh hn pg sv sd ik ks ktd knd knh kbs kag kbo kpa kdm kdn khh khn hf)) hx hb hr hlocks hS false hP dX3_image_9 (Or.inr ⟨c_4, rfl, rfl⟩)
abbrev rm_X3_restore : Room := { frames := 0, cells := 0, slots := 0, locals := 0 }
set_option maxRecDepth 100000 in
set_option maxHeartbeats 4000000 in
theorem c_X3_restore (l : Launch) (D : va_G) (cI cB : ClassId) (aS : Nat) (b : Nat → Nat) (st n td nd nh pl : Nat) (bs : Int32) (kd ag bo pa dm dn hh hn pg sv : Nat → Int32) (sd : Int64) (ik : Int32) (ks ktd knd knh : Nat) (kbs : Int32) (kag kbo kpa kdm kdn khh khn : Nat → Int32) (hf : Int64)  (hD0 : va_D (fun _ => True) (MW cI cB b st n td nd nh pl bs kd ag bo pa dm dn hh hn pg sv sd ik ks ktd knd knh kbs kag kbo kpa kdm kdn khh khn hf)) (qst : st < 2147483648) (qks : ks < 2147483648) : Met l yX3_restore (mw yX3_restore cX3_restore 2 (some .int)) rm_X3_restore (RP D cI cB aS (MW cI cB b st n td nd nh pl bs kd ag bo pa dm dn hh hn pg sv sd ik ks ktd knd knh kbs kag kbo kpa kdm kdn khh khn hf) [.ref (b 0)]) (wq mkI (MW cI cB b st n td nd nh pl bs kd ag bo pa dm dn hh hn pg sv sd ik ks ktd knd knh kbs kag kbo kpa kdm kdn khh khn hf) (fun (u : Bool) => cond u (MW cI cB b st n ktd knd knh pl kbs kd kag kbo kpa kdm kdn khh khn pg sv sd ik ks ktd knd knh kbs kag kbo kpa kdm kdn khh khn hf) (MW cI cB b st n td nd nh pl bs kd ag bo pa dm dn hh hn pg sv sd ik ks ktd knd knh kbs kag kbo kpa kdm kdn khh khn hf)) D (fun (r : Int32) (u : Bool) => ((¬ ik = nI 0 ∧ ks = st) ∧ r = nI ktd ∧ u = true) ∨ (¬ (¬ ik = nI 0 ∧ ks = st) ∧ r = -103 ∧ u = false))) 0 0 (inW (MW cI cB b st n td nd nh pl bs kd ag bo pa dm dn hh hn pg sv sd ik ks ktd knd knh kbs kag kbo kpa kdm kdn khh khn hf)) := by
  refine met_of (by decide) (Nat.le_of_ble_eq_true rfl) ?_
  intro p e s m below meth c ls hx hb hr hml hown hg hlocks hin hK hP hl
  have hown : s.vm.findClass RX3 = some m.cls := hown
  have hl : lv_has ls 2 [(0, .ref (b 0))] := hl
  have hD := hD0.here
  have hS0 : va_S (inW (MW cI cB b st n td nd nh pl bs kd ag bo pa dm dn hh hn pg sv sd ik ks ktd knd knh kbs kag kbo kpa kdm kdn khh khn hf)) s.heap s.heap [] := va_S.rf
  obtain ⟨H, hH⟩ : ∃ H, H = s.heap := ⟨_, rfl⟩
  have hS : va_S (inW (MW cI cB b st n td nd nh pl bs kd ag bo pa dm dn hh hn pg sv sd ik ks ktd knd knh kbs kag kbo kpa kdm kdn khh khn hf)) s.heap H [] := by rw [hH]; exact hS0
  clear hS0
  rw [← hH] at hP ⊢
  generalize hAe : inW (MW cI cB b st n td nd nh pl bs kd ag bo pa dm dn hh hn pg sv sd ik ks ktd knd knh kbs kag kbo kpa kdm kdn khh khn hf) = A at hD hS ⊢
  refine lv_aload_n hx hb dX3_restore_0 rfl (lv_at hl 0 rfl) ?_
  refine va_get (D := D) (ci := 3) (v := .int ik) (C := RX3) (T := TX3) (N := 32) hx hb hg us_X3 hown hK.1 hP 0 MW_g0 rfl 18 (by decide) (hg _ gm_419) (fun _ h9 => h9) rfl dX3_restore_1 ?_
  refine lv_if_eq (tgt := 18) hx hb dX3_restore_4 (by decide) (fun (c_4 : ik = nI 0) => ?_) (fun (c_4 : ¬ ik = nI 0) => ?_)
  · skip
    refine lv_bipush (v := (-103)) hx hb dX3_restore_18 (by decide) ?_
    subst hAe
    exact wr_i (w1 := fun (u : Bool) => cond u (MW cI cB b st n ktd knd knh pl kbs kd kag kbo kpa kdm kdn khh khn pg sv sd ik ks ktd knd knh kbs kag kbo kpa kdm kdn khh khn hf) (MW cI cB b st n td nd nh pl bs kd ag bo pa dm dn hh hn pg sv sd ik ks ktd knd knh kbs kag kbo kpa kdm kdn khh khn hf)) hx hb hr hlocks hS false hP dX3_restore_20 (Or.inr ⟨fun q => q.1 c_4, rfl, rfl⟩)
  · skip
    refine lv_aload_n hx hb dX3_restore_7 rfl (lv_at hl 0 rfl) ?_
    refine va_get (D := D) (ci := 3) (v := .int (nI ks)) (C := RX3) (T := TX3) (N := 32) hx hb hg us_X3 hown hK.1 hP 0 MW_g0 rfl 19 (by decide) (hg _ gm_420) (fun _ h9 => h9) rfl dX3_restore_8 ?_
    refine lv_aload_n hx hb dX3_restore_11 rfl (lv_at hl 0 rfl) ?_
    refine va_get (D := D) (ci := 3) (v := .int (nI st)) (C := RX3) (T := TX3) (N := 32) hx hb hg us_X3 hown hK.1 hP 0 MW_g0 rfl 0 (by decide) (hg _ gm_401) (fun _ h9 => h9) rfl dX3_restore_12 ?_
    refine nv_icmp_eq (tgt := 21) hx hb dX3_restore_15 (by omega) (by omega) (by decide) (fun c_15 => ?_) (fun c_15 => ?_)
    · skip
      refine lv_aload_n hx hb dX3_restore_21 rfl (lv_at hl 0 rfl) ?_
      refine lv_aload_n hx hb dX3_restore_22 rfl (lv_at hl 0 rfl) ?_
      refine va_get (D := D) (ci := 3) (v := .int (nI ktd)) (C := RX3) (T := TX3) (N := 32) hx hb hg us_X3 hown hK.1 hP 0 MW_g0 rfl 20 (by decide) (hg _ gm_421) (fun _ h9 => h9) rfl dX3_restore_23 ?_
      refine va_put (D := D) (ci := 3) (v := .int (nI ktd)) (ty := .int) (C := RX3) (T := TX3) (N := 32) hx hb hg us_X3 tyX3 tyX3_ok nmX3 hown hK.1 hP hD hS 0 MW_g0 rfl 6 (by decide) (hg _ gm_407) (fun _ h9 => h9) rfl (by decide +kernel) rfl rfl (Nat.le_of_ble_eq_true rfl) dX3_restore_26 (fun H locs hP hD hS => ?_)
      have hP : va_P D vwCl (MW cI cB b st n ktd nd nh pl bs kd ag bo pa dm dn hh hn pg sv sd ik ks ktd knd knh kbs kag kbo kpa kdm kdn khh khn hf) H := P_eq hP MW_set_9
      have hD : va_D A (MW cI cB b st n ktd nd nh pl bs kd ag bo pa dm dn hh hn pg sv sd ik ks ktd knd knh kbs kag kbo kpa kdm kdn khh khn hf) := D_eq hD MW_set_9
      refine lv_aload_n hx hb dX3_restore_29 rfl (lv_at hl 0 rfl) ?_
      refine lv_aload_n hx hb dX3_restore_30 rfl (lv_at hl 0 rfl) ?_
      refine va_get (D := D) (ci := 3) (v := .int kbs) (C := RX3) (T := TX3) (N := 32) hx hb hg us_X3 hown hK.1 hP 0 MW_g0 rfl 21 (by decide) (hg _ gm_422) (fun _ h9 => h9) rfl dX3_restore_31 ?_
      refine va_put (D := D) (ci := 3) (v := .int kbs) (ty := .int) (C := RX3) (T := TX3) (N := 32) hx hb hg us_X3 tyX3 tyX3_ok nmX3 hown hK.1 hP hD hS 0 MW_g0 rfl 7 (by decide) (hg _ gm_408) (fun _ h9 => h9) rfl (by decide +kernel) rfl rfl (Nat.le_of_ble_eq_true rfl) dX3_restore_34 (fun H locs hP hD hS => ?_)
      have hP : va_P D vwCl (MW cI cB b st n ktd nd nh pl kbs kd ag bo pa dm dn hh hn pg sv sd ik ks ktd knd knh kbs kag kbo kpa kdm kdn khh khn hf) H := P_eq hP MW_set_8
      have hD : va_D A (MW cI cB b st n ktd nd nh pl kbs kd ag bo pa dm dn hh hn pg sv sd ik ks ktd knd knh kbs kag kbo kpa kdm kdn khh khn hf) := D_eq hD MW_set_8
      refine lv_aload_n hx hb dX3_restore_37 rfl (lv_at hl 0 rfl) ?_
      refine lv_aload_n hx hb dX3_restore_38 rfl (lv_at hl 0 rfl) ?_
      refine va_get (D := D) (ci := 3) (v := .int (nI knd)) (C := RX3) (T := TX3) (N := 32) hx hb hg us_X3 hown hK.1 hP 0 MW_g0 rfl 22 (by decide) (hg _ gm_423) (fun _ h9 => h9) rfl dX3_restore_39 ?_
      refine va_put (D := D) (ci := 3) (v := .int (nI knd)) (ty := .int) (C := RX3) (T := TX3) (N := 32) hx hb hg us_X3 tyX3 tyX3_ok nmX3 hown hK.1 hP hD hS 0 MW_g0 rfl 8 (by decide) (hg _ gm_409) (fun _ h9 => h9) rfl (by decide +kernel) rfl rfl (Nat.le_of_ble_eq_true rfl) dX3_restore_42 (fun H locs hP hD hS => ?_)
      have hP : va_P D vwCl (MW cI cB b st n ktd knd nh pl kbs kd ag bo pa dm dn hh hn pg sv sd ik ks ktd knd knh kbs kag kbo kpa kdm kdn khh khn hf) H := P_eq hP MW_set_3
      have hD : va_D A (MW cI cB b st n ktd knd nh pl kbs kd ag bo pa dm dn hh hn pg sv sd ik ks ktd knd knh kbs kag kbo kpa kdm kdn khh khn hf) := D_eq hD MW_set_3
      refine lv_aload_n hx hb dX3_restore_45 rfl (lv_at hl 0 rfl) ?_
      refine lv_aload_n hx hb dX3_restore_46 rfl (lv_at hl 0 rfl) ?_
      refine va_get (D := D) (ci := 3) (v := .int (nI knh)) (C := RX3) (T := TX3) (N := 32) hx hb hg us_X3 hown hK.1 hP 0 MW_g0 rfl 23 (by decide) (hg _ gm_424) (fun _ h9 => h9) rfl dX3_restore_47 ?_
      refine va_put (D := D) (ci := 3) (v := .int (nI knh)) (ty := .int) (C := RX3) (T := TX3) (N := 32) hx hb hg us_X3 tyX3 tyX3_ok nmX3 hown hK.1 hP hD hS 0 MW_g0 rfl 11 (by decide) (hg _ gm_412) (fun _ h9 => h9) rfl (by decide +kernel) rfl rfl (Nat.le_of_ble_eq_true rfl) dX3_restore_50 (fun H locs hP hD hS => ?_)
      have hP : va_P D vwCl (MW cI cB b st n ktd knd knh pl kbs kd ag bo pa dm dn hh hn pg sv sd ik ks ktd knd knh kbs kag kbo kpa kdm kdn khh khn hf) H := P_eq hP MW_set_2
      have hD : va_D A (MW cI cB b st n ktd knd knh pl kbs kd ag bo pa dm dn hh hn pg sv sd ik ks ktd knd knh kbs kag kbo kpa kdm kdn khh khn hf) := D_eq hD MW_set_2
      refine lv_iconst (v := (nI 0)) hx hb dX3_restore_53 (by decide) ?_
      refine lv_istore_n (lv' := [(1, .int (nI 0)), (0, .ref (b 0))]) hx hb dX3_restore_54 rfl hl (by decide) rfl (fun ls hl => ?_)
      -- loop at 55
      refine loopW (nL := 2) (S := Unit) (B := 6) (I := fun i u => True) (lv := fun i u => [(0, .ref (b 0)), (1, .int (nI i))]) (wf := fun i u => MW cI cB b st n ktd knd knh pl kbs kd (cpF kag ag i) (cpF kbo bo i) pa (cpF kdm dm i) (cpF kdn dn i) (cpF khh hh i) (cpF khn hn i) pg sv sd ik ks ktd knd knh kbs kag kbo kpa kdm kdn khh khn hf) 0 () (Nat.zero_le _) (trivial) (lv_sub hl [1, 0] rfl) (by show va_P D vwCl (MW cI cB b st n ktd knd knh pl kbs kd (cpF kag ag 0) (cpF kbo bo 0) pa (cpF kdm dm 0) (cpF kdn dn 0) (cpF khh hh 0) (cpF khn hn 0) pg sv sd ik ks ktd knd knh kbs kag kbo kpa kdm kdn khh khn hf) H; rw [cpF_0, cpF_0, cpF_0, cpF_0, cpF_0, cpF_0]; exact hP) (hD.addr (MW_addr.trans MW_addr.symm)) hS (fun i u ls H locs hj hI hl hP hD hS ih => ?_)
      have hP : va_P D vwCl (MW cI cB b st n ktd knd knh pl kbs kd (cpF kag ag i) (cpF kbo bo i) pa (cpF kdm dm i) (cpF kdn dn i) (cpF khh hh i) (cpF khn hn i) pg sv sd ik ks ktd knd knh kbs kag kbo kpa kdm kdn khh khn hf) H := hP
      have hD : va_D A (MW cI cB b st n ktd knd knh pl kbs kd (cpF kag ag i) (cpF kbo bo i) pa (cpF kdm dm i) (cpF kdn dn i) (cpF khh hh i) (cpF khn hn i) pg sv sd ik ks ktd knd knh kbs kag kbo kpa kdm kdn khh khn hf) := hD
      have hl : lv_has ls 2 [(0, .ref (b 0)), (1, .int (nI i))] := hl
      have ih_55 := ih
      refine lv_iload_n hx hb dX3_restore_55 rfl (lv_at hl 1 rfl) ?_
      refine lv_bipush (v := (nI 6)) hx hb dX3_restore_56 (by decide) ?_
      refine nv_icmp_ge (tgt := 139) hx hb dX3_restore_58 (by omega) (by omega) (by decide) (fun c_58 => ?_) (fun c_58 => ?_)
      · skip
        have hP : va_P D vwCl (MW cI cB b st n ktd knd knh pl kbs kd kag (cpF kbo bo i) pa (cpF kdm dm i) (cpF kdn dn i) (cpF khh hh i) (cpF khn hn i) pg sv sd ik ks ktd knd knh kbs kag kbo kpa kdm kdn khh khn hf) H := P_eq (P_congr (g := kag) hP 2 MW_g2 (fun j hj => cpF_at (by omega))) MW_set_5
        have hD : va_D A (MW cI cB b st n ktd knd knh pl kbs kd kag (cpF kbo bo i) pa (cpF kdm dm i) (cpF kdn dn i) (cpF khh hh i) (cpF khn hn i) pg sv sd ik ks ktd knd knh kbs kag kbo kpa kdm kdn khh khn hf) := hD.addr (MW_addr.trans MW_addr.symm)
        have hP : va_P D vwCl (MW cI cB b st n ktd knd knh pl kbs kd kag kbo pa (cpF kdm dm i) (cpF kdn dn i) (cpF khh hh i) (cpF khn hn i) pg sv sd ik ks ktd knd knh kbs kag kbo kpa kdm kdn khh khn hf) H := P_eq (P_congr (g := kbo) hP 3 MW_g3 (fun j hj => cpF_at (by omega))) MW_set_7
        have hD : va_D A (MW cI cB b st n ktd knd knh pl kbs kd kag kbo pa (cpF kdm dm i) (cpF kdn dn i) (cpF khh hh i) (cpF khn hn i) pg sv sd ik ks ktd knd knh kbs kag kbo kpa kdm kdn khh khn hf) := hD.addr (MW_addr.trans MW_addr.symm)
        have hP : va_P D vwCl (MW cI cB b st n ktd knd knh pl kbs kd kag kbo pa kdm (cpF kdn dn i) (cpF khh hh i) (cpF khn hn i) pg sv sd ik ks ktd knd knh kbs kag kbo kpa kdm kdn khh khn hf) H := P_eq (P_congr (g := kdm) hP 5 MW_g5 (fun j hj => cpF_at (by omega))) MW_set_11
        have hD : va_D A (MW cI cB b st n ktd knd knh pl kbs kd kag kbo pa kdm (cpF kdn dn i) (cpF khh hh i) (cpF khn hn i) pg sv sd ik ks ktd knd knh kbs kag kbo kpa kdm kdn khh khn hf) := hD.addr (MW_addr.trans MW_addr.symm)
        have hP : va_P D vwCl (MW cI cB b st n ktd knd knh pl kbs kd kag kbo pa kdm kdn (cpF khh hh i) (cpF khn hn i) pg sv sd ik ks ktd knd knh kbs kag kbo kpa kdm kdn khh khn hf) H := P_eq (P_congr (g := kdn) hP 6 MW_g6 (fun j hj => cpF_at (by omega))) MW_set_12
        have hD : va_D A (MW cI cB b st n ktd knd knh pl kbs kd kag kbo pa kdm kdn (cpF khh hh i) (cpF khn hn i) pg sv sd ik ks ktd knd knh kbs kag kbo kpa kdm kdn khh khn hf) := hD.addr (MW_addr.trans MW_addr.symm)
        have hP : va_P D vwCl (MW cI cB b st n ktd knd knh pl kbs kd kag kbo pa kdm kdn khh (cpF khn hn i) pg sv sd ik ks ktd knd knh kbs kag kbo kpa kdm kdn khh khn hf) H := P_eq (P_congr (g := khh) hP 7 MW_g7 (fun j hj => cpF_at (by omega))) MW_set_13
        have hD : va_D A (MW cI cB b st n ktd knd knh pl kbs kd kag kbo pa kdm kdn khh (cpF khn hn i) pg sv sd ik ks ktd knd knh kbs kag kbo kpa kdm kdn khh khn hf) := hD.addr (MW_addr.trans MW_addr.symm)
        have hP : va_P D vwCl (MW cI cB b st n ktd knd knh pl kbs kd kag kbo pa kdm kdn khh khn pg sv sd ik ks ktd knd knh kbs kag kbo kpa kdm kdn khh khn hf) H := P_eq (P_congr (g := khn) hP 8 MW_g8 (fun j hj => cpF_at (by omega))) MW_set_14
        have hD : va_D A (MW cI cB b st n ktd knd knh pl kbs kd kag kbo pa kdm kdn khh khn pg sv sd ik ks ktd knd knh kbs kag kbo kpa kdm kdn khh khn hf) := hD.addr (MW_addr.trans MW_addr.symm)
        refine lv_iconst (v := (nI 0)) hx hb dX3_restore_139 (by decide) ?_
        refine lv_istore_n (lv' := [(1, .int (nI 0)), (0, .ref (b 0))]) hx hb dX3_restore_140 rfl hl (by decide) rfl (fun ls hl => ?_)
        -- loop at 141
        refine loopW (nL := 2) (S := Unit) (B := 186) (I := fun i u => True) (lv := fun i u => [(0, .ref (b 0)), (1, .int (nI i))]) (wf := fun i u => MW cI cB b st n ktd knd knh pl kbs kd kag kbo (cpF kpa pa i) kdm kdn khh khn pg sv sd ik ks ktd knd knh kbs kag kbo kpa kdm kdn khh khn hf) 0 () (Nat.zero_le _) (trivial) (lv_sub hl [1, 0] rfl) (by show va_P D vwCl (MW cI cB b st n ktd knd knh pl kbs kd kag kbo (cpF kpa pa 0) kdm kdn khh khn pg sv sd ik ks ktd knd knh kbs kag kbo kpa kdm kdn khh khn hf) H; rw [cpF_0]; exact hP) (hD.addr (MW_addr.trans MW_addr.symm)) hS (fun i u ls H locs hj hI hl hP hD hS ih => ?_)
        have hP : va_P D vwCl (MW cI cB b st n ktd knd knh pl kbs kd kag kbo (cpF kpa pa i) kdm kdn khh khn pg sv sd ik ks ktd knd knh kbs kag kbo kpa kdm kdn khh khn hf) H := hP
        have hD : va_D A (MW cI cB b st n ktd knd knh pl kbs kd kag kbo (cpF kpa pa i) kdm kdn khh khn pg sv sd ik ks ktd knd knh kbs kag kbo kpa kdm kdn khh khn hf) := hD
        have hl : lv_has ls 2 [(0, .ref (b 0)), (1, .int (nI i))] := hl
        have ih_141 := ih
        refine lv_iload_n hx hb dX3_restore_141 rfl (lv_at hl 1 rfl) ?_
        refine lv_sipush (v := (nI 186)) hx hb dX3_restore_142 (by decide) ?_
        refine nv_icmp_ge (tgt := 166) hx hb dX3_restore_145 (by omega) (by omega) (by decide) (fun c_145 => ?_) (fun c_145 => ?_)
        · skip
          have hP : va_P D vwCl (MW cI cB b st n ktd knd knh pl kbs kd kag kbo kpa kdm kdn khh khn pg sv sd ik ks ktd knd knh kbs kag kbo kpa kdm kdn khh khn hf) H := P_eq (P_congr (g := kpa) hP 4 MW_g4 (fun j hj => cpF_at (by omega))) MW_set_10
          have hD : va_D A (MW cI cB b st n ktd knd knh pl kbs kd kag kbo kpa kdm kdn khh khn pg sv sd ik ks ktd knd knh kbs kag kbo kpa kdm kdn khh khn hf) := hD.addr (MW_addr.trans MW_addr.symm)
          refine lv_aload_n hx hb dX3_restore_166 rfl (lv_at hl 0 rfl) ?_
          refine va_get (D := D) (ci := 3) (v := .int (nI ktd)) (C := RX3) (T := TX3) (N := 32) hx hb hg us_X3 hown hK.1 hP 0 MW_g0 rfl 6 (by decide) (hg _ gm_407) (fun _ h9 => h9) rfl dX3_restore_167 ?_
          subst hAe
          exact wr_i (w1 := fun (u : Bool) => cond u (MW cI cB b st n ktd knd knh pl kbs kd kag kbo kpa kdm kdn khh khn pg sv sd ik ks ktd knd knh kbs kag kbo kpa kdm kdn khh khn hf) (MW cI cB b st n td nd nh pl bs kd ag bo pa dm dn hh hn pg sv sd ik ks ktd knd knh kbs kag kbo kpa kdm kdn khh khn hf)) hx hb hr hlocks hS true hP dX3_restore_170 (Or.inl ⟨⟨c_4, c_15⟩, rfl, rfl⟩)
        · skip
          refine lv_aload_n hx hb dX3_restore_148 rfl (lv_at hl 0 rfl) ?_
          refine va_get (D := D) (ci := 3) (v := .ref (b 4)) (C := RX3) (T := TX3) (N := 32) hx hb hg us_X3 hown hK.1 hP 0 MW_g0 rfl 5 (by decide) (hg _ gm_406) (fun _ h9 => h9) rfl dX3_restore_149 ?_
          refine lv_iload_n hx hb dX3_restore_152 rfl (lv_at hl 1 rfl) ?_
          refine lv_aload_n hx hb dX3_restore_153 rfl (lv_at hl 0 rfl) ?_
          refine va_get (D := D) (ci := 3) (v := .ref (b 13)) (C := RX3) (T := TX3) (N := 32) hx hb hg us_X3 hown hK.1 hP 0 MW_g0 rfl 26 (by decide) (hg _ gm_427) (fun _ h9 => h9) rfl dX3_restore_154 ?_
          refine lv_iload_n hx hb dX3_restore_157 rfl (lv_at hl 1 rfl) ?_
          refine nv_iald hx hb hK.1 hP 13 0 MW_g13 rfl (by omega) (by omega) dX3_restore_158 ?_
          refine nv_iast hx hb hK.1 hP hD hS 4 0 MW_g4 rfl (by omega) (by omega) dX3_restore_159 (fun H locs hP hD hS => ?_)
          have hP : va_P D vwCl (MW cI cB b st n ktd knd knh pl kbs kd kag kbo (upd (cpF kpa pa i) i (kpa i)) kdm kdn khh khn pg sv sd ik ks ktd knd knh kbs kag kbo kpa kdm kdn khh khn hf) H := P_eq hP MW_set_10
          have hD : va_D A (MW cI cB b st n ktd knd knh pl kbs kd kag kbo (upd (cpF kpa pa i) i (kpa i)) kdm kdn khh khn pg sv sd ik ks ktd knd knh kbs kag kbo kpa kdm kdn khh khn hf) := D_eq hD MW_set_10
          have e_1 : upd (cpF kpa pa i) i (kpa i) = cpF kpa pa (i + 1) := cpF_s rfl
          rw [e_1] at hP hD
          have hP : va_P D vwCl (MW cI cB b st n ktd knd knh pl kbs kd kag kbo (cpF kpa pa (i + 1)) kdm kdn khh khn pg sv sd ik ks ktd knd knh kbs kag kbo kpa kdm kdn khh khn hf) H := hP
          have hD : va_D A (MW cI cB b st n ktd knd knh pl kbs kd kag kbo (cpF kpa pa (i + 1)) kdm kdn khh khn pg sv sd ik ks ktd knd knh kbs kag kbo kpa kdm kdn khh khn hf) := hD
          refine lv_iinc (v := (nI (i + 1))) (lv' := [(1, .int (nI (i + 1))), (0, .ref (b 0))]) hx hb dX3_restore_160 hl (k := 1) rfl (nI_i1 _) (by decide) rfl (fun ls hl => ?_)
          refine lv_goto (tgt := 141) hx hb dX3_restore_163 (by decide) ?_
          exact ih_141 () _ _ _ (by omega) (trivial) (lv_sub hl [1, 0] rfl) hP (hD.addr (MW_addr.trans MW_addr.symm)) hS
      · skip
        refine lv_aload_n hx hb dX3_restore_61 rfl (lv_at hl 0 rfl) ?_
        refine va_get (D := D) (ci := 3) (v := .ref (b 2)) (C := RX3) (T := TX3) (N := 32) hx hb hg us_X3 hown hK.1 hP 0 MW_g0 rfl 3 (by decide) (hg _ gm_404) (fun _ h9 => h9) rfl dX3_restore_62 ?_
        refine lv_iload_n hx hb dX3_restore_65 rfl (lv_at hl 1 rfl) ?_
        refine lv_aload_n hx hb dX3_restore_66 rfl (lv_at hl 0 rfl) ?_
        refine va_get (D := D) (ci := 3) (v := .ref (b 11)) (C := RX3) (T := TX3) (N := 32) hx hb hg us_X3 hown hK.1 hP 0 MW_g0 rfl 24 (by decide) (hg _ gm_425) (fun _ h9 => h9) rfl dX3_restore_67 ?_
        refine lv_iload_n hx hb dX3_restore_70 rfl (lv_at hl 1 rfl) ?_
        refine nv_iald hx hb hK.1 hP 11 0 MW_g11 rfl (by omega) (by omega) dX3_restore_71 ?_
        refine nv_iast hx hb hK.1 hP hD hS 2 0 MW_g2 rfl (by omega) (by omega) dX3_restore_72 (fun H locs hP hD hS => ?_)
        have hP : va_P D vwCl (MW cI cB b st n ktd knd knh pl kbs kd (upd (cpF kag ag i) i (kag i)) (cpF kbo bo i) pa (cpF kdm dm i) (cpF kdn dn i) (cpF khh hh i) (cpF khn hn i) pg sv sd ik ks ktd knd knh kbs kag kbo kpa kdm kdn khh khn hf) H := P_eq hP MW_set_5
        have hD : va_D A (MW cI cB b st n ktd knd knh pl kbs kd (upd (cpF kag ag i) i (kag i)) (cpF kbo bo i) pa (cpF kdm dm i) (cpF kdn dn i) (cpF khh hh i) (cpF khn hn i) pg sv sd ik ks ktd knd knh kbs kag kbo kpa kdm kdn khh khn hf) := D_eq hD MW_set_5
        have e_2 : upd (cpF kag ag i) i (kag i) = cpF kag ag (i + 1) := cpF_s rfl
        rw [e_2] at hP hD
        have hP : va_P D vwCl (MW cI cB b st n ktd knd knh pl kbs kd (cpF kag ag (i + 1)) (cpF kbo bo i) pa (cpF kdm dm i) (cpF kdn dn i) (cpF khh hh i) (cpF khn hn i) pg sv sd ik ks ktd knd knh kbs kag kbo kpa kdm kdn khh khn hf) H := hP
        have hD : va_D A (MW cI cB b st n ktd knd knh pl kbs kd (cpF kag ag (i + 1)) (cpF kbo bo i) pa (cpF kdm dm i) (cpF kdn dn i) (cpF khh hh i) (cpF khn hn i) pg sv sd ik ks ktd knd knh kbs kag kbo kpa kdm kdn khh khn hf) := hD
        refine lv_aload_n hx hb dX3_restore_73 rfl (lv_at hl 0 rfl) ?_
        refine va_get (D := D) (ci := 3) (v := .ref (b 3)) (C := RX3) (T := TX3) (N := 32) hx hb hg us_X3 hown hK.1 hP 0 MW_g0 rfl 4 (by decide) (hg _ gm_405) (fun _ h9 => h9) rfl dX3_restore_74 ?_
        refine lv_iload_n hx hb dX3_restore_77 rfl (lv_at hl 1 rfl) ?_
        refine lv_aload_n hx hb dX3_restore_78 rfl (lv_at hl 0 rfl) ?_
        refine va_get (D := D) (ci := 3) (v := .ref (b 12)) (C := RX3) (T := TX3) (N := 32) hx hb hg us_X3 hown hK.1 hP 0 MW_g0 rfl 25 (by decide) (hg _ gm_426) (fun _ h9 => h9) rfl dX3_restore_79 ?_
        refine lv_iload_n hx hb dX3_restore_82 rfl (lv_at hl 1 rfl) ?_
        refine nv_iald hx hb hK.1 hP 12 0 MW_g12 rfl (by omega) (by omega) dX3_restore_83 ?_
        refine nv_iast hx hb hK.1 hP hD hS 3 0 MW_g3 rfl (by omega) (by omega) dX3_restore_84 (fun H locs hP hD hS => ?_)
        have hP : va_P D vwCl (MW cI cB b st n ktd knd knh pl kbs kd (cpF kag ag (i + 1)) (upd (cpF kbo bo i) i (kbo i)) pa (cpF kdm dm i) (cpF kdn dn i) (cpF khh hh i) (cpF khn hn i) pg sv sd ik ks ktd knd knh kbs kag kbo kpa kdm kdn khh khn hf) H := P_eq hP MW_set_7
        have hD : va_D A (MW cI cB b st n ktd knd knh pl kbs kd (cpF kag ag (i + 1)) (upd (cpF kbo bo i) i (kbo i)) pa (cpF kdm dm i) (cpF kdn dn i) (cpF khh hh i) (cpF khn hn i) pg sv sd ik ks ktd knd knh kbs kag kbo kpa kdm kdn khh khn hf) := D_eq hD MW_set_7
        have e_3 : upd (cpF kbo bo i) i (kbo i) = cpF kbo bo (i + 1) := cpF_s rfl
        rw [e_3] at hP hD
        have hP : va_P D vwCl (MW cI cB b st n ktd knd knh pl kbs kd (cpF kag ag (i + 1)) (cpF kbo bo (i + 1)) pa (cpF kdm dm i) (cpF kdn dn i) (cpF khh hh i) (cpF khn hn i) pg sv sd ik ks ktd knd knh kbs kag kbo kpa kdm kdn khh khn hf) H := hP
        have hD : va_D A (MW cI cB b st n ktd knd knh pl kbs kd (cpF kag ag (i + 1)) (cpF kbo bo (i + 1)) pa (cpF kdm dm i) (cpF kdn dn i) (cpF khh hh i) (cpF khn hn i) pg sv sd ik ks ktd knd knh kbs kag kbo kpa kdm kdn khh khn hf) := hD
        refine lv_aload_n hx hb dX3_restore_85 rfl (lv_at hl 0 rfl) ?_
        refine va_get (D := D) (ci := 3) (v := .ref (b 5)) (C := RX3) (T := TX3) (N := 32) hx hb hg us_X3 hown hK.1 hP 0 MW_g0 rfl 9 (by decide) (hg _ gm_410) (fun _ h9 => h9) rfl dX3_restore_86 ?_
        refine lv_iload_n hx hb dX3_restore_89 rfl (lv_at hl 1 rfl) ?_
        refine lv_aload_n hx hb dX3_restore_90 rfl (lv_at hl 0 rfl) ?_
        refine va_get (D := D) (ci := 3) (v := .ref (b 14)) (C := RX3) (T := TX3) (N := 32) hx hb hg us_X3 hown hK.1 hP 0 MW_g0 rfl 27 (by decide) (hg _ gm_428) (fun _ h9 => h9) rfl dX3_restore_91 ?_
        refine lv_iload_n hx hb dX3_restore_94 rfl (lv_at hl 1 rfl) ?_
        refine nv_iald hx hb hK.1 hP 14 0 MW_g14 rfl (by omega) (by omega) dX3_restore_95 ?_
        refine nv_iast hx hb hK.1 hP hD hS 5 0 MW_g5 rfl (by omega) (by omega) dX3_restore_96 (fun H locs hP hD hS => ?_)
        have hP : va_P D vwCl (MW cI cB b st n ktd knd knh pl kbs kd (cpF kag ag (i + 1)) (cpF kbo bo (i + 1)) pa (upd (cpF kdm dm i) i (kdm i)) (cpF kdn dn i) (cpF khh hh i) (cpF khn hn i) pg sv sd ik ks ktd knd knh kbs kag kbo kpa kdm kdn khh khn hf) H := P_eq hP MW_set_11
        have hD : va_D A (MW cI cB b st n ktd knd knh pl kbs kd (cpF kag ag (i + 1)) (cpF kbo bo (i + 1)) pa (upd (cpF kdm dm i) i (kdm i)) (cpF kdn dn i) (cpF khh hh i) (cpF khn hn i) pg sv sd ik ks ktd knd knh kbs kag kbo kpa kdm kdn khh khn hf) := D_eq hD MW_set_11
        have e_4 : upd (cpF kdm dm i) i (kdm i) = cpF kdm dm (i + 1) := cpF_s rfl
        rw [e_4] at hP hD
        have hP : va_P D vwCl (MW cI cB b st n ktd knd knh pl kbs kd (cpF kag ag (i + 1)) (cpF kbo bo (i + 1)) pa (cpF kdm dm (i + 1)) (cpF kdn dn i) (cpF khh hh i) (cpF khn hn i) pg sv sd ik ks ktd knd knh kbs kag kbo kpa kdm kdn khh khn hf) H := hP
        have hD : va_D A (MW cI cB b st n ktd knd knh pl kbs kd (cpF kag ag (i + 1)) (cpF kbo bo (i + 1)) pa (cpF kdm dm (i + 1)) (cpF kdn dn i) (cpF khh hh i) (cpF khn hn i) pg sv sd ik ks ktd knd knh kbs kag kbo kpa kdm kdn khh khn hf) := hD
        refine lv_aload_n hx hb dX3_restore_97 rfl (lv_at hl 0 rfl) ?_
        refine va_get (D := D) (ci := 3) (v := .ref (b 6)) (C := RX3) (T := TX3) (N := 32) hx hb hg us_X3 hown hK.1 hP 0 MW_g0 rfl 10 (by decide) (hg _ gm_411) (fun _ h9 => h9) rfl dX3_restore_98 ?_
        refine lv_iload_n hx hb dX3_restore_101 rfl (lv_at hl 1 rfl) ?_
        refine lv_aload_n hx hb dX3_restore_102 rfl (lv_at hl 0 rfl) ?_
        refine va_get (D := D) (ci := 3) (v := .ref (b 15)) (C := RX3) (T := TX3) (N := 32) hx hb hg us_X3 hown hK.1 hP 0 MW_g0 rfl 28 (by decide) (hg _ gm_429) (fun _ h9 => h9) rfl dX3_restore_103 ?_
        refine lv_iload_n hx hb dX3_restore_106 rfl (lv_at hl 1 rfl) ?_
        refine nv_iald hx hb hK.1 hP 15 0 MW_g15 rfl (by omega) (by omega) dX3_restore_107 ?_
        refine nv_iast hx hb hK.1 hP hD hS 6 0 MW_g6 rfl (by omega) (by omega) dX3_restore_108 (fun H locs hP hD hS => ?_)
        have hP : va_P D vwCl (MW cI cB b st n ktd knd knh pl kbs kd (cpF kag ag (i + 1)) (cpF kbo bo (i + 1)) pa (cpF kdm dm (i + 1)) (upd (cpF kdn dn i) i (kdn i)) (cpF khh hh i) (cpF khn hn i) pg sv sd ik ks ktd knd knh kbs kag kbo kpa kdm kdn khh khn hf) H := P_eq hP MW_set_12
        have hD : va_D A (MW cI cB b st n ktd knd knh pl kbs kd (cpF kag ag (i + 1)) (cpF kbo bo (i + 1)) pa (cpF kdm dm (i + 1)) (upd (cpF kdn dn i) i (kdn i)) (cpF khh hh i) (cpF khn hn i) pg sv sd ik ks ktd knd knh kbs kag kbo kpa kdm kdn khh khn hf) := D_eq hD MW_set_12
        have e_5 : upd (cpF kdn dn i) i (kdn i) = cpF kdn dn (i + 1) := cpF_s rfl
        rw [e_5] at hP hD
        have hP : va_P D vwCl (MW cI cB b st n ktd knd knh pl kbs kd (cpF kag ag (i + 1)) (cpF kbo bo (i + 1)) pa (cpF kdm dm (i + 1)) (cpF kdn dn (i + 1)) (cpF khh hh i) (cpF khn hn i) pg sv sd ik ks ktd knd knh kbs kag kbo kpa kdm kdn khh khn hf) H := hP
        have hD : va_D A (MW cI cB b st n ktd knd knh pl kbs kd (cpF kag ag (i + 1)) (cpF kbo bo (i + 1)) pa (cpF kdm dm (i + 1)) (cpF kdn dn (i + 1)) (cpF khh hh i) (cpF khn hn i) pg sv sd ik ks ktd knd knh kbs kag kbo kpa kdm kdn khh khn hf) := hD
        refine lv_aload_n hx hb dX3_restore_109 rfl (lv_at hl 0 rfl) ?_
        refine va_get (D := D) (ci := 3) (v := .ref (b 7)) (C := RX3) (T := TX3) (N := 32) hx hb hg us_X3 hown hK.1 hP 0 MW_g0 rfl 12 (by decide) (hg _ gm_413) (fun _ h9 => h9) rfl dX3_restore_110 ?_
        refine lv_iload_n hx hb dX3_restore_113 rfl (lv_at hl 1 rfl) ?_
        refine lv_aload_n hx hb dX3_restore_114 rfl (lv_at hl 0 rfl) ?_
        refine va_get (D := D) (ci := 3) (v := .ref (b 16)) (C := RX3) (T := TX3) (N := 32) hx hb hg us_X3 hown hK.1 hP 0 MW_g0 rfl 29 (by decide) (hg _ gm_430) (fun _ h9 => h9) rfl dX3_restore_115 ?_
        refine lv_iload_n hx hb dX3_restore_118 rfl (lv_at hl 1 rfl) ?_
        refine nv_iald hx hb hK.1 hP 16 0 MW_g16 rfl (by omega) (by omega) dX3_restore_119 ?_
        refine nv_iast hx hb hK.1 hP hD hS 7 0 MW_g7 rfl (by omega) (by omega) dX3_restore_120 (fun H locs hP hD hS => ?_)
        have hP : va_P D vwCl (MW cI cB b st n ktd knd knh pl kbs kd (cpF kag ag (i + 1)) (cpF kbo bo (i + 1)) pa (cpF kdm dm (i + 1)) (cpF kdn dn (i + 1)) (upd (cpF khh hh i) i (khh i)) (cpF khn hn i) pg sv sd ik ks ktd knd knh kbs kag kbo kpa kdm kdn khh khn hf) H := P_eq hP MW_set_13
        have hD : va_D A (MW cI cB b st n ktd knd knh pl kbs kd (cpF kag ag (i + 1)) (cpF kbo bo (i + 1)) pa (cpF kdm dm (i + 1)) (cpF kdn dn (i + 1)) (upd (cpF khh hh i) i (khh i)) (cpF khn hn i) pg sv sd ik ks ktd knd knh kbs kag kbo kpa kdm kdn khh khn hf) := D_eq hD MW_set_13
        have e_6 : upd (cpF khh hh i) i (khh i) = cpF khh hh (i + 1) := cpF_s rfl
        rw [e_6] at hP hD
        have hP : va_P D vwCl (MW cI cB b st n ktd knd knh pl kbs kd (cpF kag ag (i + 1)) (cpF kbo bo (i + 1)) pa (cpF kdm dm (i + 1)) (cpF kdn dn (i + 1)) (cpF khh hh (i + 1)) (cpF khn hn i) pg sv sd ik ks ktd knd knh kbs kag kbo kpa kdm kdn khh khn hf) H := hP
        have hD : va_D A (MW cI cB b st n ktd knd knh pl kbs kd (cpF kag ag (i + 1)) (cpF kbo bo (i + 1)) pa (cpF kdm dm (i + 1)) (cpF kdn dn (i + 1)) (cpF khh hh (i + 1)) (cpF khn hn i) pg sv sd ik ks ktd knd knh kbs kag kbo kpa kdm kdn khh khn hf) := hD
        refine lv_aload_n hx hb dX3_restore_121 rfl (lv_at hl 0 rfl) ?_
        refine va_get (D := D) (ci := 3) (v := .ref (b 8)) (C := RX3) (T := TX3) (N := 32) hx hb hg us_X3 hown hK.1 hP 0 MW_g0 rfl 13 (by decide) (hg _ gm_414) (fun _ h9 => h9) rfl dX3_restore_122 ?_
        refine lv_iload_n hx hb dX3_restore_125 rfl (lv_at hl 1 rfl) ?_
        refine lv_aload_n hx hb dX3_restore_126 rfl (lv_at hl 0 rfl) ?_
        refine va_get (D := D) (ci := 3) (v := .ref (b 17)) (C := RX3) (T := TX3) (N := 32) hx hb hg us_X3 hown hK.1 hP 0 MW_g0 rfl 30 (by decide) (hg _ gm_431) (fun _ h9 => h9) rfl dX3_restore_127 ?_
        refine lv_iload_n hx hb dX3_restore_130 rfl (lv_at hl 1 rfl) ?_
        refine nv_iald hx hb hK.1 hP 17 0 MW_g17 rfl (by omega) (by omega) dX3_restore_131 ?_
        refine nv_iast hx hb hK.1 hP hD hS 8 0 MW_g8 rfl (by omega) (by omega) dX3_restore_132 (fun H locs hP hD hS => ?_)
        have hP : va_P D vwCl (MW cI cB b st n ktd knd knh pl kbs kd (cpF kag ag (i + 1)) (cpF kbo bo (i + 1)) pa (cpF kdm dm (i + 1)) (cpF kdn dn (i + 1)) (cpF khh hh (i + 1)) (upd (cpF khn hn i) i (khn i)) pg sv sd ik ks ktd knd knh kbs kag kbo kpa kdm kdn khh khn hf) H := P_eq hP MW_set_14
        have hD : va_D A (MW cI cB b st n ktd knd knh pl kbs kd (cpF kag ag (i + 1)) (cpF kbo bo (i + 1)) pa (cpF kdm dm (i + 1)) (cpF kdn dn (i + 1)) (cpF khh hh (i + 1)) (upd (cpF khn hn i) i (khn i)) pg sv sd ik ks ktd knd knh kbs kag kbo kpa kdm kdn khh khn hf) := D_eq hD MW_set_14
        have e_7 : upd (cpF khn hn i) i (khn i) = cpF khn hn (i + 1) := cpF_s rfl
        rw [e_7] at hP hD
        have hP : va_P D vwCl (MW cI cB b st n ktd knd knh pl kbs kd (cpF kag ag (i + 1)) (cpF kbo bo (i + 1)) pa (cpF kdm dm (i + 1)) (cpF kdn dn (i + 1)) (cpF khh hh (i + 1)) (cpF khn hn (i + 1)) pg sv sd ik ks ktd knd knh kbs kag kbo kpa kdm kdn khh khn hf) H := hP
        have hD : va_D A (MW cI cB b st n ktd knd knh pl kbs kd (cpF kag ag (i + 1)) (cpF kbo bo (i + 1)) pa (cpF kdm dm (i + 1)) (cpF kdn dn (i + 1)) (cpF khh hh (i + 1)) (cpF khn hn (i + 1)) pg sv sd ik ks ktd knd knh kbs kag kbo kpa kdm kdn khh khn hf) := hD
        refine lv_iinc (v := (nI (i + 1))) (lv' := [(1, .int (nI (i + 1))), (0, .ref (b 0))]) hx hb dX3_restore_133 hl (k := 1) rfl (nI_i1 _) (by decide) rfl (fun ls hl => ?_)
        refine lv_goto (tgt := 55) hx hb dX3_restore_136 (by decide) ?_
        exact ih_55 () _ _ _ (by omega) (trivial) (lv_sub hl [1, 0] rfl) hP (hD.addr (MW_addr.trans MW_addr.symm)) hS
    · skip
      refine lv_bipush (v := (-103)) hx hb dX3_restore_18 (by decide) ?_
      subst hAe
      exact wr_i (w1 := fun (u : Bool) => cond u (MW cI cB b st n ktd knd knh pl kbs kd kag kbo kpa kdm kdn khh khn pg sv sd ik ks ktd knd knh kbs kag kbo kpa kdm kdn khh khn hf) (MW cI cB b st n td nd nh pl bs kd ag bo pa dm dn hh hn pg sv sd ik ks ktd knd knh kbs kag kbo kpa kdm kdn khh khn hf)) hx hb hr hlocks hS false hP dX3_restore_20 (Or.inr ⟨fun q => c_15 q.2, rfl, rfl⟩)
abbrev rm_X3_mix : Room := { frames := 0, cells := 0, slots := 0, locals := 0 }
theorem MW_set_32 {cI cB : ClassId} {b : Nat → Nat} {st n td nd nh pl : Nat} {bs : Int32} {kd ag bo pa dm dn hh hn pg sv : Nat → Int32} {sd : Int64} {ik : Int32} {ks ktd knd knh : Nat} {kbs : Int32} {kag kbo kpa kdm kdn khh khn : Nat → Int32} {hf : Int64} {z0 : Int64} : List.set (MW cI cB b st n td nd nh pl bs kd ag bo pa dm dn hh hn pg sv sd ik ks ktd knd knh kbs kag kbo kpa kdm kdn khh khn hf) 0 (b 0, .inr (3, List.set [.int (nI st), .int (nI n), .ref (b 1), .ref (b 2), .ref (b 3), .ref (b 4), .int (nI td), .int bs, .int (nI nd), .ref (b 5), .ref (b 6), .int (nI nh), .ref (b 7), .ref (b 8), .int (nI pl), .ref (b 9), .ref (b 10), .long sd, .int ik, .int (nI ks), .int (nI ktd), .int kbs, .int (nI knd), .int (nI knh), .ref (b 11), .ref (b 12), .ref (b 13), .ref (b 14), .ref (b 15), .ref (b 16), .ref (b 17), .long hf] 31 (.long z0))) = MW cI cB b st n td nd nh pl bs kd ag bo pa dm dn hh hn pg sv sd ik ks ktd knd knh kbs kag kbo kpa kdm kdn khh khn z0 := rfl
set_option maxRecDepth 100000 in
set_option maxHeartbeats 4000000 in
theorem c_X3_mix (l : Launch) (D : va_G) (cI cB : ClassId) (aS : Nat) (b : Nat → Nat) (st n td nd nh pl : Nat) (bs : Int32) (kd ag bo pa dm dn hh hn pg sv : Nat → Int32) (sd : Int64) (ik : Int32) (ks ktd knd knh : Nat) (kbs : Int32) (kag kbo kpa kdm kdn khh khn : Nat → Int32) (hf : Int64) (v : Int64) (hD0 : va_D (fun _ => True) (MW cI cB b st n td nd nh pl bs kd ag bo pa dm dn hh hn pg sv sd ik ks ktd knd knh kbs kag kbo kpa kdm kdn khh khn hf)) : Met l yX3_mix (mw yX3_mix cX3_mix 3 none) rm_X3_mix (RP D cI cB aS (MW cI cB b st n td nd nh pl bs kd ag bo pa dm dn hh hn pg sv sd ik ks ktd knd knh kbs kag kbo kpa kdm kdn khh khn hf) [.ref (b 0), .long v]) (wq mkV (MW cI cB b st n td nd nh pl bs kd ag bo pa dm dn hh hn pg sv sd ik ks ktd knd knh kbs kag kbo kpa kdm kdn khh khn hf) (fun (_ : Unit) => MW cI cB b st n td nd nh pl bs kd ag bo pa dm dn hh hn pg sv sd ik ks ktd knd knh kbs kag kbo kpa kdm kdn khh khn (mx hf v)) D (fun (_ : Unit) (_ : Unit) => True)) 0 0 (inW (MW cI cB b st n td nd nh pl bs kd ag bo pa dm dn hh hn pg sv sd ik ks ktd knd knh kbs kag kbo kpa kdm kdn khh khn hf)) := by
  refine met_of (by decide) (Nat.le_of_ble_eq_true rfl) ?_
  intro p e s m below meth c ls hx hb hr hml hown hg hlocks hin hK hP hl
  have hown : s.vm.findClass RX3 = some m.cls := hown
  have hl : lv_has ls 3 [(0, .ref (b 0)), (1, .long v)] := hl
  have hD := hD0.here
  have hS0 : va_S (inW (MW cI cB b st n td nd nh pl bs kd ag bo pa dm dn hh hn pg sv sd ik ks ktd knd knh kbs kag kbo kpa kdm kdn khh khn hf)) s.heap s.heap [] := va_S.rf
  obtain ⟨H, hH⟩ : ∃ H, H = s.heap := ⟨_, rfl⟩
  have hS : va_S (inW (MW cI cB b st n td nd nh pl bs kd ag bo pa dm dn hh hn pg sv sd ik ks ktd knd knh kbs kag kbo kpa kdm kdn khh khn hf)) s.heap H [] := by rw [hH]; exact hS0
  clear hS0
  rw [← hH] at hP ⊢
  generalize hAe : inW (MW cI cB b st n td nd nh pl bs kd ag bo pa dm dn hh hn pg sv sd ik ks ktd knd knh kbs kag kbo kpa kdm kdn khh khn hf) = A at hD hS ⊢
  refine lv_aload_n hx hb dX3_mix_0 rfl (lv_at hl 0 rfl) ?_
  refine lv_ldc2 hx hb hown (hg _ gm_678) dX3_mix_1 ?_
  refine lv_aload_n hx hb dX3_mix_4 rfl (lv_at hl 0 rfl) ?_
  refine va_get (D := D) (ci := 3) (v := .long hf) (C := RX3) (T := TX3) (N := 32) hx hb hg us_X3 hown hK.1 hP 0 MW_g0 rfl 31 (by decide) (hg _ gm_432) (fun _ h9 => h9) rfl dX3_mix_5 ?_
  refine lv_lmul hx hb dX3_mix_8 ?_
  refine lv_lload_n hx hb dX3_mix_9 rfl (lv_at hl 1 rfl) ?_
  refine lv_ladd hx hb dX3_mix_10 ?_
  refine va_put (D := D) (ci := 3) (v := .long (((31 : Int64) * hf) + v)) (ty := .long) (C := RX3) (T := TX3) (N := 32) hx hb hg us_X3 tyX3 tyX3_ok nmX3 hown hK.1 hP hD hS 0 MW_g0 rfl 31 (by decide) (hg _ gm_432) (fun _ h9 => h9) rfl (by decide +kernel) rfl rfl (Nat.le_of_ble_eq_true rfl) dX3_mix_11 (fun H locs hP hD hS => ?_)
  have hP : va_P D vwCl (MW cI cB b st n td nd nh pl bs kd ag bo pa dm dn hh hn pg sv sd ik ks ktd knd knh kbs kag kbo kpa kdm kdn khh khn (((31 : Int64) * hf) + v)) H := P_eq hP MW_set_32
  have hD : va_D A (MW cI cB b st n td nd nh pl bs kd ag bo pa dm dn hh hn pg sv sd ik ks ktd knd knh kbs kag kbo kpa kdm kdn khh khn (((31 : Int64) * hf) + v)) := D_eq hD MW_set_32
  subst hAe
  exact wr_v (w1 := fun (_ : Unit) => MW cI cB b st n td nd nh pl bs kd ag bo pa dm dn hh hn pg sv sd ik ks ktd knd knh kbs kag kbo kpa kdm kdn khh khn (mx hf v)) hx hb hr hlocks hS () hP dX3_mix_14 trivial
abbrev rm_X3_mixHouse : Room := { frames := 5, cells := 0, slots := 0, locals := 113 }
theorem vf_X3_mix : vfacts RX3 yX3_mix cX3_mix 3 none 1 := ⟨⟨rfl, by decide +kernel, by decide +kernel, by decide +kernel⟩, gm_676, gm_739, gm_5, gm_677⟩
set_option maxRecDepth 100000 in
set_option maxHeartbeats 4000000 in
theorem c_X3_mixHouse (l : Launch) (D : va_G) (cI cB : ClassId) (aS : Nat) (b : Nat → Nat) (st n td nd nh pl : Nat) (bs : Int32) (kd ag bo pa dm dn hh hn pg sv : Nat → Int32) (sd : Int64) (ik : Int32) (ks ktd knd knh : Nat) (kbs : Int32) (kag kbo kpa kdm kdn khh khn : Nat → Int32) (hf : Int64) (j : Nat) (hD0 : va_D (fun _ => True) (MW cI cB b st n td nd nh pl bs kd ag bo pa dm dn hh hn pg sv sd ik ks ktd knd knh kbs kag kbo kpa kdm kdn khh khn hf)) (qj : j < n) (hn6 : n ≤ 6) (qnd : nd ≤ 6) (qt : td ≤ 30) : Met l yX3_mixHouse (mw yX3_mixHouse cX3_mixHouse 3 none) rm_X3_mixHouse (RP D cI cB aS (MW cI cB b st n td nd nh pl bs kd ag bo pa dm dn hh hn pg sv sd ik ks ktd knd knh kbs kag kbo kpa kdm kdn khh khn hf) [.ref (b 0), .int (nI j)]) (wq mkV (MW cI cB b st n td nd nh pl bs kd ag bo pa dm dn hh hn pg sv sd ik ks ktd knd knh kbs kag kbo kpa kdm kdn khh khn hf) (fun (_ : Unit) => MW cI cB b st n td nd nh pl bs kd ag bo pa dm dn hh hn pg sv sd ik ks ktd knd knh kbs kag kbo kpa kdm kdn khh khn (mhF n kd ag bo pa dm dn nd td j hf)) D (fun (_ : Unit) (_ : Unit) => True)) 0 0 (inW (MW cI cB b st n td nd nh pl bs kd ag bo pa dm dn hh hn pg sv sd ik ks ktd knd knh kbs kag kbo kpa kdm kdn khh khn hf)) := by
  refine met_of (by decide) (Nat.le_of_ble_eq_true rfl) ?_
  intro p e s m below meth c ls hx hb hr hml hown hg hlocks hin hK hP hl
  have hown : s.vm.findClass RX3 = some m.cls := hown
  have hl : lv_has ls 3 [(0, .ref (b 0)), (1, .int (nI j))] := hl
  have hD := hD0.here
  have hS0 : va_S (inW (MW cI cB b st n td nd nh pl bs kd ag bo pa dm dn hh hn pg sv sd ik ks ktd knd knh kbs kag kbo kpa kdm kdn khh khn hf)) s.heap s.heap [] := va_S.rf
  obtain ⟨H, hH⟩ : ∃ H, H = s.heap := ⟨_, rfl⟩
  have hS : va_S (inW (MW cI cB b st n td nd nh pl bs kd ag bo pa dm dn hh hn pg sv sd ik ks ktd knd knh kbs kag kbo kpa kdm kdn khh khn hf)) s.heap H [] := by rw [hH]; exact hS0
  clear hS0
  rw [← hH] at hP ⊢
  generalize hAe : inW (MW cI cB b st n td nd nh pl bs kd ag bo pa dm dn hh hn pg sv sd ik ks ktd knd knh kbs kag kbo kpa kdm kdn khh khn hf) = A at hD hS ⊢
  refine lv_iconst (v := (nI 0)) hx hb dX3_mixHouse_0 (by decide) ?_
  refine lv_istore_n (lv' := [(2, .int (nI 0)), (0, .ref (b 0)), (1, .int (nI j))]) hx hb dX3_mixHouse_1 rfl hl (by decide) rfl (fun ls hl => ?_)
  -- loop at 2
  refine loopW (nL := 3) (S := Unit) (B := 6) (I := fun i u => True) (lv := fun i u => [(0, .ref (b 0)), (1, .int (nI j)), (2, .int (nI i))]) (wf := fun i u => MW cI cB b st n td nd nh pl bs kd ag bo pa dm dn hh hn pg sv sd ik ks ktd knd knh kbs kag kbo kpa kdm kdn khh khn (mxL (fun w => (abF n kd ag bo dm dn nd j w).toInt64) hf i)) 0 () (Nat.zero_le _) (trivial) (lv_sub hl [1, 2, 0] rfl) hP (hD.addr (MW_addr.trans MW_addr.symm)) hS (fun i u ls H locs hj hI hl hP hD hS ih => ?_)
  have hP : va_P D vwCl (MW cI cB b st n td nd nh pl bs kd ag bo pa dm dn hh hn pg sv sd ik ks ktd knd knh kbs kag kbo kpa kdm kdn khh khn (mxL (fun w => (abF n kd ag bo dm dn nd j w).toInt64) hf i)) H := hP
  have hD : va_D A (MW cI cB b st n td nd nh pl bs kd ag bo pa dm dn hh hn pg sv sd ik ks ktd knd knh kbs kag kbo kpa kdm kdn khh khn (mxL (fun w => (abF n kd ag bo dm dn nd j w).toInt64) hf i)) := hD
  have hl : lv_has ls 3 [(0, .ref (b 0)), (1, .int (nI j)), (2, .int (nI i))] := hl
  have ih_2 := ih
  refine lv_iload_n hx hb dX3_mixHouse_2 rfl (lv_at hl 2 rfl) ?_
  refine lv_bipush (v := (nI 6)) hx hb dX3_mixHouse_3 (by decide) ?_
  refine nv_icmp_ge (tgt := 25) hx hb dX3_mixHouse_5 (by omega) (by omega) (by decide) (fun c_5 => ?_) (fun c_5 => ?_)
  · skip
    have e6 : i = 6 := by omega
    subst e6
    refine lv_iconst (v := (nI 0)) hx hb dX3_mixHouse_25 (by decide) ?_
    refine lv_istore_n (lv' := [(2, .int (nI 0)), (0, .ref (b 0)), (1, .int (nI j))]) hx hb dX3_mixHouse_26 rfl hl (by decide) rfl (fun ls hl => ?_)
    -- loop at 27
    refine loopW (nL := 3) (S := Unit) (B := (td + 1)) (I := fun i u => True) (lv := fun i u => [(0, .ref (b 0)), (1, .int (nI j)), (2, .int (nI i))]) (wf := fun i u => MW cI cB b st n td nd nh pl bs kd ag bo pa dm dn hh hn pg sv sd ik ks ktd knd knh kbs kag kbo kpa kdm kdn khh khn (mxL (fun d => (numOn kd ag pa td j d).toInt64) (mxL (fun w => (abF n kd ag bo dm dn nd j w).toInt64) hf 6) i)) 0 () (Nat.zero_le _) (trivial) (lv_sub hl [1, 2, 0] rfl) hP (hD.addr (MW_addr.trans MW_addr.symm)) hS (fun i u ls H locs hj hI hl hP hD hS ih => ?_)
    have hP : va_P D vwCl (MW cI cB b st n td nd nh pl bs kd ag bo pa dm dn hh hn pg sv sd ik ks ktd knd knh kbs kag kbo kpa kdm kdn khh khn (mxL (fun d => (numOn kd ag pa td j d).toInt64) (mxL (fun w => (abF n kd ag bo dm dn nd j w).toInt64) hf 6) i)) H := hP
    have hD : va_D A (MW cI cB b st n td nd nh pl bs kd ag bo pa dm dn hh hn pg sv sd ik ks ktd knd knh kbs kag kbo kpa kdm kdn khh khn (mxL (fun d => (numOn kd ag pa td j d).toInt64) (mxL (fun w => (abF n kd ag bo dm dn nd j w).toInt64) hf 6) i)) := hD
    have hl : lv_has ls 3 [(0, .ref (b 0)), (1, .int (nI j)), (2, .int (nI i))] := hl
    have ih_27 := ih
    refine lv_iload_n hx hb dX3_mixHouse_27 rfl (lv_at hl 2 rfl) ?_
    refine lv_aload_n hx hb dX3_mixHouse_28 rfl (lv_at hl 0 rfl) ?_
    refine va_get (D := D) (ci := 3) (v := .int (nI td)) (C := RX3) (T := TX3) (N := 32) hx hb hg us_X3 hown hK.1 hP 0 MW_g0 rfl 6 (by decide) (hg _ gm_407) (fun _ h9 => h9) rfl dX3_mixHouse_29 ?_
    refine nv_icmp_gt (tgt := 52) hx hb dX3_mixHouse_32 (by omega) (by omega) (by decide) (fun c_32 => ?_) (fun c_32 => ?_)
    · skip
      subst hAe
      exact wr_v (w1 := fun (_ : Unit) => MW cI cB b st n td nd nh pl bs kd ag bo pa dm dn hh hn pg sv sd ik ks ktd knd knh kbs kag kbo kpa kdm kdn khh khn (mhF n kd ag bo pa dm dn nd td j hf)) hx hb hr hlocks hS () (by rw [show i = td + 1 by omega] at hP; exact hP) dX3_mixHouse_52 trivial
    · skip
      refine lv_aload_n hx hb dX3_mixHouse_35 rfl (lv_at hl 0 rfl) ?_
      refine lv_aload_n hx hb dX3_mixHouse_36 rfl (lv_at hl 0 rfl) ?_
      refine lv_iload_n hx hb dX3_mixHouse_37 rfl (lv_at hl 1 rfl) ?_
      refine lv_iload_n hx hb dX3_mixHouse_38 rfl (lv_at hl 2 rfl) ?_
      refine rdV (As := [.int (nI j), .int (nI i)]) (rest := [.ref (b 0)]) hx hb hml hown hg (c_X3_numberOn l D cI cB aS _ st n td nd nh pl bs kd ag bo pa dm dn hh hn pg sv sd ik ks ktd knd knh kbs kag kbo kpa kdm kdn khh khn (mxL (fun d => (numOn kd ag pa td j d).toInt64) (mxL (fun w => (abF n kd ag bo dm dn nd j w).toInt64) hf 6) i) j i (by first | assumption | omega) (by first | assumption | omega) (by first | assumption | omega)) gm_515 vf_X3_numberOn ⟨Nat.le_of_ble_eq_true rfl, Nat.le_of_ble_eq_true rfl⟩ ⟨rfl, rfl⟩ ⟨Nat.zero_le _, Nat.zero_le _⟩ (RP.preV hK hP (q0 := 0) (ci := 3) MW_g0 rfl) rfl hl.1 rfl (Nat.le_of_ble_eq_true rfl) dX3_mixHouse_39 ?_
      refine lv_i2l (v := (numOn kd ag pa td j i).toInt64) hx hb dX3_mixHouse_42 rfl ?_
      refine wrVv (As := [.long ((numOn kd ag pa td j i).toInt64)]) (rest := []) hx hb hml hown hg (c_X3_mix l D cI cB aS _ st n td nd nh pl bs kd ag bo pa dm dn hh hn pg sv sd ik ks ktd knd knh kbs kag kbo kpa kdm kdn khh khn (mxL (fun d => (numOn kd ag pa td j d).toInt64) (mxL (fun w => (abF n kd ag bo dm dn nd j w).toInt64) hf 6) i) ((numOn kd ag pa td j i).toInt64) (hD.weaken (fun _ _ _ _ => trivial))) gm_675 vf_X3_mix ⟨Nat.le_of_ble_eq_true rfl, Nat.le_of_ble_eq_true rfl⟩ ⟨rfl, rfl⟩ ⟨Nat.zero_le _, Nat.zero_le _⟩ (RP.preV hK hP (q0 := 0) (ci := 3) MW_g0 rfl) rfl hl.1 rfl (Nat.le_of_ble_eq_true rfl) dX3_mixHouse_43 hS (inW_all hD) (fun u_1 H1 locs hpo_1 hP1 hk1 hS => ?_)
      have hP : va_P D vwCl (MW cI cB b st n td nd nh pl bs kd ag bo pa dm dn hh hn pg sv sd ik ks ktd knd knh kbs kag kbo kpa kdm kdn khh khn (mx (mxL (fun d => (numOn kd ag pa td j d).toInt64) (mxL (fun w => (abF n kd ag bo dm dn nd j w).toInt64) hf 6) i) ((numOn kd ag pa td j i).toInt64))) H1 := hP1
      have hD : va_D A (MW cI cB b st n td nd nh pl bs kd ag bo pa dm dn hh hn pg sv sd ik ks ktd knd knh kbs kag kbo kpa kdm kdn khh khn (mx (mxL (fun d => (numOn kd ag pa td j d).toInt64) (mxL (fun w => (abF n kd ag bo dm dn nd j w).toInt64) hf 6) i) ((numOn kd ag pa td j i).toInt64))) := hD.addr (MW_addr.trans MW_addr.symm)
      clear hP1 hk1
      generalize H1 = H at hP hS ⊢
      refine lv_iinc (v := (nI (i + 1))) (lv' := [(2, .int (nI (i + 1))), (0, .ref (b 0)), (1, .int (nI j))]) hx hb dX3_mixHouse_46 hl (k := 2) rfl (nI_i1 _) (by decide) rfl (fun ls hl => ?_)
      refine lv_goto (tgt := 27) hx hb dX3_mixHouse_49 (by decide) ?_
      exact ih_27 () _ _ _ (by omega) (trivial) (lv_sub hl [1, 2, 0] rfl) hP (hD.addr (MW_addr.trans MW_addr.symm)) hS
  · skip
    refine lv_aload_n hx hb dX3_mixHouse_8 rfl (lv_at hl 0 rfl) ?_
    refine lv_aload_n hx hb dX3_mixHouse_9 rfl (lv_at hl 0 rfl) ?_
    refine lv_iload_n hx hb dX3_mixHouse_10 rfl (lv_at hl 1 rfl) ?_
    refine lv_iload_n hx hb dX3_mixHouse_11 rfl (lv_at hl 2 rfl) ?_
    refine rdV (As := [.int (nI j), .int (nI i)]) (rest := [.ref (b 0)]) hx hb hml hown hg (c_X3_houseNow l D cI cB aS _ st n td nd nh pl bs kd ag bo pa dm dn hh hn pg sv sd ik ks ktd knd knh kbs kag kbo kpa kdm kdn khh khn (mxL (fun w => (abF n kd ag bo dm dn nd j w).toInt64) hf i) j i (by first | assumption | omega) (by first | assumption | omega) (by first | assumption | omega) (by first | assumption | omega) (by first | assumption | omega)) gm_500 vf_X3_houseNow ⟨Nat.le_of_ble_eq_true rfl, Nat.le_of_ble_eq_true rfl⟩ ⟨rfl, rfl⟩ ⟨Nat.zero_le _, Nat.zero_le _⟩ (RP.preV hK hP (q0 := 0) (ci := 3) MW_g0 rfl) rfl hl.1 rfl (Nat.le_of_ble_eq_true rfl) dX3_mixHouse_12 ?_
    refine lv_i2l (v := (abF n kd ag bo dm dn nd j i).toInt64) hx hb dX3_mixHouse_15 rfl ?_
    refine wrVv (As := [.long ((abF n kd ag bo dm dn nd j i).toInt64)]) (rest := []) hx hb hml hown hg (c_X3_mix l D cI cB aS _ st n td nd nh pl bs kd ag bo pa dm dn hh hn pg sv sd ik ks ktd knd knh kbs kag kbo kpa kdm kdn khh khn (mxL (fun w => (abF n kd ag bo dm dn nd j w).toInt64) hf i) ((abF n kd ag bo dm dn nd j i).toInt64) (hD.weaken (fun _ _ _ _ => trivial))) gm_675 vf_X3_mix ⟨Nat.le_of_ble_eq_true rfl, Nat.le_of_ble_eq_true rfl⟩ ⟨rfl, rfl⟩ ⟨Nat.zero_le _, Nat.zero_le _⟩ (RP.preV hK hP (q0 := 0) (ci := 3) MW_g0 rfl) rfl hl.1 rfl (Nat.le_of_ble_eq_true rfl) dX3_mixHouse_16 hS (inW_all hD) (fun u_2 H1 locs hpo_2 hP1 hk1 hS => ?_)
    have hP : va_P D vwCl (MW cI cB b st n td nd nh pl bs kd ag bo pa dm dn hh hn pg sv sd ik ks ktd knd knh kbs kag kbo kpa kdm kdn khh khn (mx (mxL (fun w => (abF n kd ag bo dm dn nd j w).toInt64) hf i) ((abF n kd ag bo dm dn nd j i).toInt64))) H1 := hP1
    have hD : va_D A (MW cI cB b st n td nd nh pl bs kd ag bo pa dm dn hh hn pg sv sd ik ks ktd knd knh kbs kag kbo kpa kdm kdn khh khn (mx (mxL (fun w => (abF n kd ag bo dm dn nd j w).toInt64) hf i) ((abF n kd ag bo dm dn nd j i).toInt64))) := hD.addr (MW_addr.trans MW_addr.symm)
    clear hP1 hk1
    generalize H1 = H at hP hS ⊢
    refine lv_iinc (v := (nI (i + 1))) (lv' := [(2, .int (nI (i + 1))), (0, .ref (b 0)), (1, .int (nI j))]) hx hb dX3_mixHouse_19 hl (k := 2) rfl (nI_i1 _) (by decide) rfl (fun ls hl => ?_)
    refine lv_goto (tgt := 2) hx hb dX3_mixHouse_22 (by decide) ?_
    exact ih_2 () _ _ _ (by omega) (trivial) (lv_sub hl [1, 2, 0] rfl) hP (hD.addr (MW_addr.trans MW_addr.symm)) hS
abbrev rm_X3_digest : Room := { frames := 6, cells := 0, slots := 0, locals := 135 }
theorem vf_X3_mixHouse : vfacts RX3 yX3_mixHouse cX3_mixHouse 3 none 1 := ⟨⟨rfl, by decide +kernel, by decide +kernel, by decide +kernel⟩, gm_673, gm_738, gm_5, gm_674⟩
set_option maxRecDepth 100000 in
set_option maxHeartbeats 4000000 in
theorem c_X3_digest (l : Launch) (D : va_G) (cI cB : ClassId) (aS : Nat) (b : Nat → Nat) (st n td nd nh pl : Nat) (bs : Int32) (kd ag bo pa dm dn hh hn pg sv : Nat → Int32) (sd : Int64) (ik : Int32) (ks ktd knd knh : Nat) (kbs : Int32) (kag kbo kpa kdm kdn khh khn : Nat → Int32) (hf : Int64)  (hD0 : va_D (fun _ => True) (MW cI cB b st n td nd nh pl bs kd ag bo pa dm dn hh hn pg sv sd ik ks ktd knd knh kbs kag kbo kpa kdm kdn khh khn hf)) (hn6 : n ≤ 6) (qt : td ≤ 30) (qnh : nh ≤ 6) (qhh : hOK n hh nh) (qnd : nd ≤ 6) (qpl : pl ≤ 19) : Met l yX3_digest (mw yX3_digest cX3_digest 2 (some .long)) rm_X3_digest (RP D cI cB aS (MW cI cB b st n td nd nh pl bs kd ag bo pa dm dn hh hn pg sv sd ik ks ktd knd knh kbs kag kbo kpa kdm kdn khh khn hf) [.ref (b 0)]) (wq mkL (MW cI cB b st n td nd nh pl bs kd ag bo pa dm dn hh hn pg sv sd ik ks ktd knd knh kbs kag kbo kpa kdm kdn khh khn hf) (fun (u : (Nat → Int32) × Int64) => MW cI cB b st n td nd nh pl bs kd ag bo pa dm dn hh hn pg u.1 sd ik ks ktd knd knh kbs kag kbo kpa kdm kdn khh khn u.2) D (fun (r : Int64) (_ : (Nat → Int32) × Int64) => r = dgF n td bs kd ag bo pa dm dn hh hn nd nh pg pl st)) 0 0 (inW (MW cI cB b st n td nd nh pl bs kd ag bo pa dm dn hh hn pg sv sd ik ks ktd knd knh kbs kag kbo kpa kdm kdn khh khn hf)) := by
  refine met_of (by decide) (Nat.le_of_ble_eq_true rfl) ?_
  intro p e s m below meth c ls hx hb hr hml hown hg hlocks hin hK hP hl
  have hown : s.vm.findClass RX3 = some m.cls := hown
  have hl : lv_has ls 2 [(0, .ref (b 0))] := hl
  have hD := hD0.here
  have hS0 : va_S (inW (MW cI cB b st n td nd nh pl bs kd ag bo pa dm dn hh hn pg sv sd ik ks ktd knd knh kbs kag kbo kpa kdm kdn khh khn hf)) s.heap s.heap [] := va_S.rf
  obtain ⟨H, hH⟩ : ∃ H, H = s.heap := ⟨_, rfl⟩
  have hS : va_S (inW (MW cI cB b st n td nd nh pl bs kd ag bo pa dm dn hh hn pg sv sd ik ks ktd knd knh kbs kag kbo kpa kdm kdn khh khn hf)) s.heap H [] := by rw [hH]; exact hS0
  clear hS0
  rw [← hH] at hP ⊢
  generalize hAe : inW (MW cI cB b st n td nd nh pl bs kd ag bo pa dm dn hh hn pg sv sd ik ks ktd knd knh kbs kag kbo kpa kdm kdn khh khn hf) = A at hD hS ⊢
  refine lv_aload_n hx hb dX3_digest_0 rfl (lv_at hl 0 rfl) ?_
  refine lv_ldc2 hx hb hown (hg _ gm_671) dX3_digest_1 ?_
  refine va_put (D := D) (ci := 3) (v := .long (1033 : Int64)) (ty := .long) (C := RX3) (T := TX3) (N := 32) hx hb hg us_X3 tyX3 tyX3_ok nmX3 hown hK.1 hP hD hS 0 MW_g0 rfl 31 (by decide) (hg _ gm_432) (fun _ h9 => h9) rfl (by decide +kernel) rfl rfl (Nat.le_of_ble_eq_true rfl) dX3_digest_4 (fun H locs hP hD hS => ?_)
  have hP : va_P D vwCl (MW cI cB b st n td nd nh pl bs kd ag bo pa dm dn hh hn pg sv sd ik ks ktd knd knh kbs kag kbo kpa kdm kdn khh khn (1033 : Int64)) H := P_eq hP MW_set_32
  have hD : va_D A (MW cI cB b st n td nd nh pl bs kd ag bo pa dm dn hh hn pg sv sd ik ks ktd knd knh kbs kag kbo kpa kdm kdn khh khn (1033 : Int64)) := D_eq hD MW_set_32
  refine lv_iconst (v := (nI 0)) hx hb dX3_digest_7 (by decide) ?_
  refine lv_istore_n (lv' := [(1, .int (nI 0)), (0, .ref (b 0))]) hx hb dX3_digest_8 rfl hl (by decide) rfl (fun ls hl => ?_)
  -- loop at 9
  refine loopW (nL := 2) (S := Unit) (B := n) (I := fun i u => True) (lv := fun i u => [(0, .ref (b 0)), (1, .int (nI i))]) (wf := fun i u => MW cI cB b st n td nd nh pl bs kd ag bo pa dm dn hh hn pg sv sd ik ks ktd knd knh kbs kag kbo kpa kdm kdn khh khn (dgH n kd ag bo pa dm dn nd td i)) 0 () (Nat.zero_le _) (trivial) (lv_sub hl [1, 0] rfl) hP (hD.addr (MW_addr.trans MW_addr.symm)) hS (fun i u ls H locs hj hI hl hP hD hS ih => ?_)
  have hP : va_P D vwCl (MW cI cB b st n td nd nh pl bs kd ag bo pa dm dn hh hn pg sv sd ik ks ktd knd knh kbs kag kbo kpa kdm kdn khh khn (dgH n kd ag bo pa dm dn nd td i)) H := hP
  have hD : va_D A (MW cI cB b st n td nd nh pl bs kd ag bo pa dm dn hh hn pg sv sd ik ks ktd knd knh kbs kag kbo kpa kdm kdn khh khn (dgH n kd ag bo pa dm dn nd td i)) := hD
  have hl : lv_has ls 2 [(0, .ref (b 0)), (1, .int (nI i))] := hl
  have ih_9 := ih
  refine lv_iload_n hx hb dX3_digest_9 rfl (lv_at hl 1 rfl) ?_
  refine lv_aload_n hx hb dX3_digest_10 rfl (lv_at hl 0 rfl) ?_
  refine va_get (D := D) (ci := 3) (v := .int (nI n)) (C := RX3) (T := TX3) (N := 32) hx hb hg us_X3 hown hK.1 hP 0 MW_g0 rfl 1 (by decide) (hg _ gm_402) (fun _ h9 => h9) rfl dX3_digest_11 ?_
  refine nv_icmp_ge (tgt := 28) hx hb dX3_digest_14 (by omega) (by omega) (by decide) (fun c_14 => ?_) (fun c_14 => ?_)
  · skip
    have ein : n = i := by omega
    subst ein
    refine lv_aload_n hx hb dX3_digest_28 rfl (lv_at hl 0 rfl) ?_
    refine va_get (D := D) (ci := 3) (v := .int (nI n)) (C := RX3) (T := TX3) (N := 32) hx hb hg us_X3 hown hK.1 hP 0 MW_g0 rfl 1 (by decide) (hg _ gm_402) (fun _ h9 => h9) rfl dX3_digest_29 ?_
    refine nv_if_le (tgt := 97) hx hb dX3_digest_32 (by omega) (by decide) (fun c_32 => ?_) (fun c_32 => ?_)
    · skip
      have e_1 : dgH n kd ag bo pa dm dn nd td n = dgS n kd ag pa td (cbF kd ag pa hh hn td nh) (dgH n kd ag bo pa dm dn nd td n) := (dgS_0 c_32).symm
      rw [e_1] at hP hD
      have hP : va_P D vwCl (MW cI cB b st n td nd nh pl bs kd ag bo pa dm dn hh hn pg sv sd ik ks ktd knd knh kbs kag kbo kpa kdm kdn khh khn (dgS n kd ag pa td (cbF kd ag pa hh hn td nh) (dgH n kd ag bo pa dm dn nd td n))) H := hP
      have hD : va_D A (MW cI cB b st n td nd nh pl bs kd ag bo pa dm dn hh hn pg sv sd ik ks ktd knd knh kbs kag kbo kpa kdm kdn khh khn (dgS n kd ag pa td (cbF kd ag pa hh hn td nh) (dgH n kd ag bo pa dm dn nd td n))) := hD
      refine lv_iconst (v := (nI 0)) hx hb dX3_digest_97 (by decide) ?_
      refine lv_istore_n (lv' := [(1, .int (nI 0)), (0, .ref (b 0))]) hx hb dX3_digest_98 rfl hl (by decide) rfl (fun ls hl => ?_)
      -- loop at 99
      refine loopW (nL := 2) (S := Unit) (B := pl) (I := fun i u => True) (lv := fun i u => [(0, .ref (b 0)), (1, .int (nI i))]) (wf := fun i u => MW cI cB b st n td nd nh pl bs kd ag bo pa dm dn hh hn pg sv sd ik ks ktd knd knh kbs kag kbo kpa kdm kdn khh khn (mxL (fun k => (pg k).toInt64) (dgS n kd ag pa td (cbF kd ag pa hh hn td nh) (dgH n kd ag bo pa dm dn nd td n)) i)) 0 () (Nat.zero_le _) (trivial) (lv_sub hl [1, 0] rfl) hP (hD.addr (MW_addr.trans MW_addr.symm)) hS (fun i u ls H locs hj hI hl hP hD hS ih => ?_)
      have hP : va_P D vwCl (MW cI cB b st n td nd nh pl bs kd ag bo pa dm dn hh hn pg sv sd ik ks ktd knd knh kbs kag kbo kpa kdm kdn khh khn (mxL (fun k => (pg k).toInt64) (dgS n kd ag pa td (cbF kd ag pa hh hn td nh) (dgH n kd ag bo pa dm dn nd td n)) i)) H := hP
      have hD : va_D A (MW cI cB b st n td nd nh pl bs kd ag bo pa dm dn hh hn pg sv sd ik ks ktd knd knh kbs kag kbo kpa kdm kdn khh khn (mxL (fun k => (pg k).toInt64) (dgS n kd ag pa td (cbF kd ag pa hh hn td nh) (dgH n kd ag bo pa dm dn nd td n)) i)) := hD
      have hl : lv_has ls 2 [(0, .ref (b 0)), (1, .int (nI i))] := hl
      have ih_99 := ih
      refine lv_iload_n hx hb dX3_digest_99 rfl (lv_at hl 1 rfl) ?_
      refine lv_aload_n hx hb dX3_digest_100 rfl (lv_at hl 0 rfl) ?_
      refine va_get (D := D) (ci := 3) (v := .int (nI pl)) (C := RX3) (T := TX3) (N := 32) hx hb hg us_X3 hown hK.1 hP 0 MW_g0 rfl 14 (by decide) (hg _ gm_415) (fun _ h9 => h9) rfl dX3_digest_101 ?_
      refine nv_icmp_ge (tgt := 124) hx hb dX3_digest_104 (by omega) (by omega) (by decide) (fun c_104 => ?_) (fun c_104 => ?_)
      · skip
        have ein : pl = i := by omega
        subst ein
        refine lv_iconst (v := (nI 0)) hx hb dX3_digest_124 (by decide) ?_
        refine lv_istore_n (lv' := [(1, .int (nI 0)), (0, .ref (b 0))]) hx hb dX3_digest_125 rfl hl (by decide) rfl (fun ls hl => ?_)
        -- loop at 126
        refine loopW (nL := 2) (S := Unit) (B := 10) (I := fun i u => True) (lv := fun i u => [(0, .ref (b 0)), (1, .int (nI i))]) (wf := fun i u => MW cI cB b st n td nd nh pl bs kd ag bo pa dm dn hh hn pg sv sd ik ks ktd knd knh kbs kag kbo kpa kdm kdn khh khn (mxL (fun w => (hmF n td bs kd ag dm dn nd nh pl st w).toInt64) (mxL (fun k => (pg k).toInt64) (dgS n kd ag pa td (cbF kd ag pa hh hn td nh) (dgH n kd ag bo pa dm dn nd td n)) pl) i)) 0 () (Nat.zero_le _) (trivial) (lv_sub hl [1, 0] rfl) hP (hD.addr (MW_addr.trans MW_addr.symm)) hS (fun i u ls H locs hj hI hl hP hD hS ih => ?_)
        have hP : va_P D vwCl (MW cI cB b st n td nd nh pl bs kd ag bo pa dm dn hh hn pg sv sd ik ks ktd knd knh kbs kag kbo kpa kdm kdn khh khn (mxL (fun w => (hmF n td bs kd ag dm dn nd nh pl st w).toInt64) (mxL (fun k => (pg k).toInt64) (dgS n kd ag pa td (cbF kd ag pa hh hn td nh) (dgH n kd ag bo pa dm dn nd td n)) pl) i)) H := hP
        have hD : va_D A (MW cI cB b st n td nd nh pl bs kd ag bo pa dm dn hh hn pg sv sd ik ks ktd knd knh kbs kag kbo kpa kdm kdn khh khn (mxL (fun w => (hmF n td bs kd ag dm dn nd nh pl st w).toInt64) (mxL (fun k => (pg k).toInt64) (dgS n kd ag pa td (cbF kd ag pa hh hn td nh) (dgH n kd ag bo pa dm dn nd td n)) pl) i)) := hD
        have hl : lv_has ls 2 [(0, .ref (b 0)), (1, .int (nI i))] := hl
        have ih_126 := ih
        refine lv_iload_n hx hb dX3_digest_126 rfl (lv_at hl 1 rfl) ?_
        refine lv_bipush (v := (nI 10)) hx hb dX3_digest_127 (by decide) ?_
        refine nv_icmp_ge (tgt := 148) hx hb dX3_digest_129 (by omega) (by omega) (by decide) (fun c_129 => ?_) (fun c_129 => ?_)
        · skip
          have ein : i = 10 := by omega
          subst ein
          refine lv_aload_n hx hb dX3_digest_148 rfl (lv_at hl 0 rfl) ?_
          refine va_get (D := D) (ci := 3) (v := .long (mxL (fun w => (hmF n td bs kd ag dm dn nd nh pl st w).toInt64) (mxL (fun k => (pg k).toInt64) (dgS n kd ag pa td (cbF kd ag pa hh hn td nh) (dgH n kd ag bo pa dm dn nd td n)) pl) 10)) (C := RX3) (T := TX3) (N := 32) hx hb hg us_X3 hown hK.1 hP 0 MW_g0 rfl 31 (by decide) (hg _ gm_432) (fun _ h9 => h9) rfl dX3_digest_149 ?_
          subst hAe
          exact wr_l (w1 := fun (u : (Nat → Int32) × Int64) => MW cI cB b st n td nd nh pl bs kd ag bo pa dm dn hh hn pg u.1 sd ik ks ktd knd knh kbs kag kbo kpa kdm kdn khh khn u.2) hx hb hr hlocks hS (sv, mxL (fun w => (hmF n td bs kd ag dm dn nd nh pl st w).toInt64) (mxL (fun k => (pg k).toInt64) (dgS n kd ag pa td (cbF kd ag pa hh hn td nh) (dgH n kd ag bo pa dm dn nd td n)) pl) 10) hP dX3_digest_152 rfl
        · skip
          refine lv_aload_n hx hb dX3_digest_132 rfl (lv_at hl 0 rfl) ?_
          refine lv_aload_n hx hb dX3_digest_133 rfl (lv_at hl 0 rfl) ?_
          refine lv_iload_n hx hb dX3_digest_134 rfl (lv_at hl 1 rfl) ?_
          refine rdV (As := [.int (nI i)]) (rest := [.ref (b 0)]) hx hb hml hown hg (c_X3_howMany l D cI cB aS _ st n td nd nh pl bs kd ag bo pa dm dn hh hn pg sv sd ik ks ktd knd knh kbs kag kbo kpa kdm kdn khh khn (mxL (fun w => (hmF n td bs kd ag dm dn nd nh pl st w).toInt64) (mxL (fun k => (pg k).toInt64) (dgS n kd ag pa td (cbF kd ag pa hh hn td nh) (dgH n kd ag bo pa dm dn nd td n)) pl) i) (nI i) (by first | assumption | omega) (by first | assumption | omega) (by first | assumption | omega)) gm_658 vf_X3_howMany ⟨Nat.le_of_ble_eq_true rfl, Nat.le_of_ble_eq_true rfl⟩ ⟨rfl, rfl⟩ ⟨Nat.zero_le _, Nat.zero_le _⟩ (RP.preV hK hP (q0 := 0) (ci := 3) MW_g0 rfl) rfl hl.1 rfl (Nat.le_of_ble_eq_true rfl) dX3_digest_135 ?_
          rw [show ((cntF n td bs kd ag dm dn nd nh pl st (nI i)) : Int32) = (hmF n td bs kd ag dm dn nd nh pl st i) from cnt_ok (by omega)]
          refine lv_i2l (v := (hmF n td bs kd ag dm dn nd nh pl st i).toInt64) hx hb dX3_digest_138 rfl ?_
          refine wrVv (As := [.long ((hmF n td bs kd ag dm dn nd nh pl st i).toInt64)]) (rest := []) hx hb hml hown hg (c_X3_mix l D cI cB aS _ st n td nd nh pl bs kd ag bo pa dm dn hh hn pg sv sd ik ks ktd knd knh kbs kag kbo kpa kdm kdn khh khn (mxL (fun w => (hmF n td bs kd ag dm dn nd nh pl st w).toInt64) (mxL (fun k => (pg k).toInt64) (dgS n kd ag pa td (cbF kd ag pa hh hn td nh) (dgH n kd ag bo pa dm dn nd td n)) pl) i) ((hmF n td bs kd ag dm dn nd nh pl st i).toInt64) (hD.weaken (fun _ _ _ _ => trivial))) gm_675 vf_X3_mix ⟨Nat.le_of_ble_eq_true rfl, Nat.le_of_ble_eq_true rfl⟩ ⟨rfl, rfl⟩ ⟨Nat.zero_le _, Nat.zero_le _⟩ (RP.preV hK hP (q0 := 0) (ci := 3) MW_g0 rfl) rfl hl.1 rfl (Nat.le_of_ble_eq_true rfl) dX3_digest_139 hS (inW_all hD) (fun u_2 H1 locs hpo_2 hP1 hk1 hS => ?_)
          have hP : va_P D vwCl (MW cI cB b st n td nd nh pl bs kd ag bo pa dm dn hh hn pg sv sd ik ks ktd knd knh kbs kag kbo kpa kdm kdn khh khn (mx (mxL (fun w => (hmF n td bs kd ag dm dn nd nh pl st w).toInt64) (mxL (fun k => (pg k).toInt64) (dgS n kd ag pa td (cbF kd ag pa hh hn td nh) (dgH n kd ag bo pa dm dn nd td n)) pl) i) ((hmF n td bs kd ag dm dn nd nh pl st i).toInt64))) H1 := hP1
          have hD : va_D A (MW cI cB b st n td nd nh pl bs kd ag bo pa dm dn hh hn pg sv sd ik ks ktd knd knh kbs kag kbo kpa kdm kdn khh khn (mx (mxL (fun w => (hmF n td bs kd ag dm dn nd nh pl st w).toInt64) (mxL (fun k => (pg k).toInt64) (dgS n kd ag pa td (cbF kd ag pa hh hn td nh) (dgH n kd ag bo pa dm dn nd td n)) pl) i) ((hmF n td bs kd ag dm dn nd nh pl st i).toInt64))) := hD.addr (MW_addr.trans MW_addr.symm)
          clear hP1 hk1
          generalize H1 = H at hP hS ⊢
          refine lv_iinc (v := (nI (i + 1))) (lv' := [(1, .int (nI (i + 1))), (0, .ref (b 0))]) hx hb dX3_digest_142 hl (k := 1) rfl (nI_i1 _) (by decide) rfl (fun ls hl => ?_)
          refine lv_goto (tgt := 126) hx hb dX3_digest_145 (by decide) ?_
          exact ih_126 () _ _ _ (by omega) (trivial) (lv_sub hl [1, 0] rfl) hP (hD.addr (MW_addr.trans MW_addr.symm)) hS
      · skip
        refine lv_aload_n hx hb dX3_digest_107 rfl (lv_at hl 0 rfl) ?_
        refine lv_aload_n hx hb dX3_digest_108 rfl (lv_at hl 0 rfl) ?_
        refine va_get (D := D) (ci := 3) (v := .ref (b 9)) (C := RX3) (T := TX3) (N := 32) hx hb hg us_X3 hown hK.1 hP 0 MW_g0 rfl 15 (by decide) (hg _ gm_416) (fun _ h9 => h9) rfl dX3_digest_109 ?_
        refine lv_iload_n hx hb dX3_digest_112 rfl (lv_at hl 1 rfl) ?_
        refine nv_bald hx hb hK.1 hP 9 1 MW_g9 rfl (by omega) (by omega) dX3_digest_113 ?_
        refine lv_i2l (v := (pg i).toInt64) hx hb dX3_digest_114 rfl ?_
        refine wrVv (As := [.long ((pg i).toInt64)]) (rest := []) hx hb hml hown hg (c_X3_mix l D cI cB aS _ st n td nd nh pl bs kd ag bo pa dm dn hh hn pg sv sd ik ks ktd knd knh kbs kag kbo kpa kdm kdn khh khn (mxL (fun k => (pg k).toInt64) (dgS n kd ag pa td (cbF kd ag pa hh hn td nh) (dgH n kd ag bo pa dm dn nd td n)) i) ((pg i).toInt64) (hD.weaken (fun _ _ _ _ => trivial))) gm_675 vf_X3_mix ⟨Nat.le_of_ble_eq_true rfl, Nat.le_of_ble_eq_true rfl⟩ ⟨rfl, rfl⟩ ⟨Nat.zero_le _, Nat.zero_le _⟩ (RP.preV hK hP (q0 := 0) (ci := 3) MW_g0 rfl) rfl hl.1 rfl (Nat.le_of_ble_eq_true rfl) dX3_digest_115 hS (inW_all hD) (fun u_3 H1 locs hpo_3 hP1 hk1 hS => ?_)
        have hP : va_P D vwCl (MW cI cB b st n td nd nh pl bs kd ag bo pa dm dn hh hn pg sv sd ik ks ktd knd knh kbs kag kbo kpa kdm kdn khh khn (mx (mxL (fun k => (pg k).toInt64) (dgS n kd ag pa td (cbF kd ag pa hh hn td nh) (dgH n kd ag bo pa dm dn nd td n)) i) ((pg i).toInt64))) H1 := hP1
        have hD : va_D A (MW cI cB b st n td nd nh pl bs kd ag bo pa dm dn hh hn pg sv sd ik ks ktd knd knh kbs kag kbo kpa kdm kdn khh khn (mx (mxL (fun k => (pg k).toInt64) (dgS n kd ag pa td (cbF kd ag pa hh hn td nh) (dgH n kd ag bo pa dm dn nd td n)) i) ((pg i).toInt64))) := hD.addr (MW_addr.trans MW_addr.symm)
        clear hP1 hk1
        generalize H1 = H at hP hS ⊢
        refine lv_iinc (v := (nI (i + 1))) (lv' := [(1, .int (nI (i + 1))), (0, .ref (b 0))]) hx hb dX3_digest_118 hl (k := 1) rfl (nI_i1 _) (by decide) rfl (fun ls hl => ?_)
        refine lv_goto (tgt := 99) hx hb dX3_digest_121 (by decide) ?_
        exact ih_99 () _ _ _ (by omega) (trivial) (lv_sub hl [1, 0] rfl) hP (hD.addr (MW_addr.trans MW_addr.symm)) hS
    · skip
      refine lv_aload_n hx hb dX3_digest_35 rfl (lv_at hl 0 rfl) ?_
      refine lv_aload_n hx hb dX3_digest_36 rfl (lv_at hl 0 rfl) ?_
      refine rdV (As := []) (rest := [.ref (b 0)]) hx hb hml hown hg (c_X3_walkNow l D cI cB aS _ st n td nd nh pl bs kd ag bo pa dm dn hh hn pg sv sd ik ks ktd knd knh kbs kag kbo kpa kdm kdn khh khn (dgH n kd ag bo pa dm dn nd td n) (by first | assumption | omega)) gm_560 vf_X3_walkNow ⟨Nat.le_of_ble_eq_true rfl, Nat.le_of_ble_eq_true rfl⟩ ⟨rfl, rfl⟩ ⟨Nat.zero_le _, Nat.zero_le _⟩ (RP.preV hK hP (q0 := 0) (ci := 3) MW_g0 rfl) rfl hl.1 rfl (Nat.le_of_ble_eq_true rfl) dX3_digest_37 ?_
      refine lv_i2l (v := (nI (wkF n (nmF kd ag) n)).toInt64) hx hb dX3_digest_40 rfl ?_
      refine wrVv (As := [.long ((nI (wkF n (nmF kd ag) n)).toInt64)]) (rest := []) hx hb hml hown hg (c_X3_mix l D cI cB aS _ st n td nd nh pl bs kd ag bo pa dm dn hh hn pg sv sd ik ks ktd knd knh kbs kag kbo kpa kdm kdn khh khn (dgH n kd ag bo pa dm dn nd td n) ((nI (wkF n (nmF kd ag) n)).toInt64) (hD.weaken (fun _ _ _ _ => trivial))) gm_675 vf_X3_mix ⟨Nat.le_of_ble_eq_true rfl, Nat.le_of_ble_eq_true rfl⟩ ⟨rfl, rfl⟩ ⟨Nat.zero_le _, Nat.zero_le _⟩ (RP.preV hK hP (q0 := 0) (ci := 3) MW_g0 rfl) rfl hl.1 rfl (Nat.le_of_ble_eq_true rfl) dX3_digest_41 hS (inW_all hD) (fun u_4 H1 locs hpo_4 hP1 hk1 hS => ?_)
      have hP : va_P D vwCl (MW cI cB b st n td nd nh pl bs kd ag bo pa dm dn hh hn pg sv sd ik ks ktd knd knh kbs kag kbo kpa kdm kdn khh khn (mx (dgH n kd ag bo pa dm dn nd td n) ((nI (wkF n (nmF kd ag) n)).toInt64))) H1 := hP1
      have hD : va_D A (MW cI cB b st n td nd nh pl bs kd ag bo pa dm dn hh hn pg sv sd ik ks ktd knd knh kbs kag kbo kpa kdm kdn khh khn (mx (dgH n kd ag bo pa dm dn nd td n) ((nI (wkF n (nmF kd ag) n)).toInt64))) := hD.addr (MW_addr.trans MW_addr.symm)
      clear hP1 hk1
      generalize H1 = H at hP hS ⊢
      refine lv_aload_n hx hb dX3_digest_44 rfl (lv_at hl 0 rfl) ?_
      refine lv_aload_n hx hb dX3_digest_45 rfl (lv_at hl 0 rfl) ?_
      refine lv_bipush (v := (nI 9)) hx hb dX3_digest_46 (by decide) ?_
      refine lv_iconst (v := (nI 0)) hx hb dX3_digest_48 (by decide) ?_
      refine wrVi (As := [.int (nI 9), .int (nI 0)]) (rest := [.ref (b 0)]) hx hb hml hown hg (c_X3_cheapNow l D cI cB aS _ st n td nd nh pl bs kd ag bo pa dm dn hh hn pg sv sd ik ks ktd knd knh kbs kag kbo kpa kdm kdn khh khn (mx (dgH n kd ag bo pa dm dn nd td n) ((nI (wkF n (nmF kd ag) n)).toInt64)) (nI 9) (nI 0) (hD.weaken (fun _ _ _ _ => trivial)) (by decide) (by first | assumption | omega)) gm_575 vf_X3_cheapNow ⟨Nat.le_of_ble_eq_true rfl, Nat.le_of_ble_eq_true rfl⟩ ⟨rfl, rfl⟩ ⟨Nat.zero_le _, Nat.zero_le _⟩ (RP.preV hK hP (q0 := 0) (ci := 3) MW_g0 rfl) rfl hl.1 rfl (Nat.le_of_ble_eq_true rfl) dX3_digest_49 hS (inW_all hD) (fun r_5 u_5 H1 locs hpo_5 hP1 hk1 hS => ?_)
      have hP : va_P D vwCl (MW cI cB b st n td nd nh pl bs kd ag bo pa dm dn hh hn pg ag sd ik ks ktd knd knh kbs kag kbo kpa kdm kdn khh khn (mx (dgH n kd ag bo pa dm dn nd td n) ((nI (wkF n (nmF kd ag) n)).toInt64))) H1 := hP1
      have hD : va_D A (MW cI cB b st n td nd nh pl bs kd ag bo pa dm dn hh hn pg ag sd ik ks ktd knd knh kbs kag kbo kpa kdm kdn khh khn (mx (dgH n kd ag bo pa dm dn nd td n) ((nI (wkF n (nmF kd ag) n)).toInt64))) := hD.addr (MW_addr.trans MW_addr.symm)
      clear hP1 hk1
      generalize H1 = H at hP hS ⊢
      have hpo_5 : r_5 = (chN n kd ag (nI 9) (nI 0)) := hpo_5
      subst hpo_5
      refine lv_i2l (v := (chN n kd ag (nI 9) (nI 0)).toInt64) hx hb dX3_digest_52 rfl ?_
      refine wrVv (As := [.long ((chN n kd ag (nI 9) (nI 0)).toInt64)]) (rest := []) hx hb hml hown hg (c_X3_mix l D cI cB aS _ st n td nd nh pl bs kd ag bo pa dm dn hh hn pg ag sd ik ks ktd knd knh kbs kag kbo kpa kdm kdn khh khn (mx (dgH n kd ag bo pa dm dn nd td n) ((nI (wkF n (nmF kd ag) n)).toInt64)) ((chN n kd ag (nI 9) (nI 0)).toInt64) (hD.weaken (fun _ _ _ _ => trivial))) gm_675 vf_X3_mix ⟨Nat.le_of_ble_eq_true rfl, Nat.le_of_ble_eq_true rfl⟩ ⟨rfl, rfl⟩ ⟨Nat.zero_le _, Nat.zero_le _⟩ (RP.preV hK hP (q0 := 0) (ci := 3) MW_g0 rfl) rfl hl.1 rfl (Nat.le_of_ble_eq_true rfl) dX3_digest_53 hS (inW_all hD) (fun u_6 H1 locs hpo_6 hP1 hk1 hS => ?_)
      have hP : va_P D vwCl (MW cI cB b st n td nd nh pl bs kd ag bo pa dm dn hh hn pg ag sd ik ks ktd knd knh kbs kag kbo kpa kdm kdn khh khn (mx (mx (dgH n kd ag bo pa dm dn nd td n) ((nI (wkF n (nmF kd ag) n)).toInt64)) ((chN n kd ag (nI 9) (nI 0)).toInt64))) H1 := hP1
      have hD : va_D A (MW cI cB b st n td nd nh pl bs kd ag bo pa dm dn hh hn pg ag sd ik ks ktd knd knh kbs kag kbo kpa kdm kdn khh khn (mx (mx (dgH n kd ag bo pa dm dn nd td n) ((nI (wkF n (nmF kd ag) n)).toInt64)) ((chN n kd ag (nI 9) (nI 0)).toInt64))) := hD.addr (MW_addr.trans MW_addr.symm)
      clear hP1 hk1
      generalize H1 = H at hP hS ⊢
      refine lv_aload_n hx hb dX3_digest_56 rfl (lv_at hl 0 rfl) ?_
      refine lv_aload_n hx hb dX3_digest_57 rfl (lv_at hl 0 rfl) ?_
      refine lv_bipush (v := (nI 9)) hx hb dX3_digest_58 (by decide) ?_
      refine lv_iconst (v := (nI 1)) hx hb dX3_digest_60 (by decide) ?_
      refine wrVi (As := [.int (nI 9), .int (nI 1)]) (rest := [.ref (b 0)]) hx hb hml hown hg (c_X3_cheapNow l D cI cB aS _ st n td nd nh pl bs kd ag bo pa dm dn hh hn pg ag sd ik ks ktd knd knh kbs kag kbo kpa kdm kdn khh khn (mx (mx (dgH n kd ag bo pa dm dn nd td n) ((nI (wkF n (nmF kd ag) n)).toInt64)) ((chN n kd ag (nI 9) (nI 0)).toInt64)) (nI 9) (nI 1) (hD.weaken (fun _ _ _ _ => trivial)) (by decide) (by first | assumption | omega)) gm_575 vf_X3_cheapNow ⟨Nat.le_of_ble_eq_true rfl, Nat.le_of_ble_eq_true rfl⟩ ⟨rfl, rfl⟩ ⟨Nat.zero_le _, Nat.zero_le _⟩ (RP.preV hK hP (q0 := 0) (ci := 3) MW_g0 rfl) rfl hl.1 rfl (Nat.le_of_ble_eq_true rfl) dX3_digest_61 hS (inW_all hD) (fun r_7 u_7 H1 locs hpo_7 hP1 hk1 hS => ?_)
      have hP : va_P D vwCl (MW cI cB b st n td nd nh pl bs kd ag bo pa dm dn hh hn pg ag sd ik ks ktd knd knh kbs kag kbo kpa kdm kdn khh khn (mx (mx (dgH n kd ag bo pa dm dn nd td n) ((nI (wkF n (nmF kd ag) n)).toInt64)) ((chN n kd ag (nI 9) (nI 0)).toInt64))) H1 := hP1
      have hD : va_D A (MW cI cB b st n td nd nh pl bs kd ag bo pa dm dn hh hn pg ag sd ik ks ktd knd knh kbs kag kbo kpa kdm kdn khh khn (mx (mx (dgH n kd ag bo pa dm dn nd td n) ((nI (wkF n (nmF kd ag) n)).toInt64)) ((chN n kd ag (nI 9) (nI 0)).toInt64))) := hD.addr (MW_addr.trans MW_addr.symm)
      clear hP1 hk1
      generalize H1 = H at hP hS ⊢
      have hpo_7 : r_7 = (chN n kd ag (nI 9) (nI 1)) := hpo_7
      subst hpo_7
      refine lv_i2l (v := (chN n kd ag (nI 9) (nI 1)).toInt64) hx hb dX3_digest_64 rfl ?_
      refine wrVv (As := [.long ((chN n kd ag (nI 9) (nI 1)).toInt64)]) (rest := []) hx hb hml hown hg (c_X3_mix l D cI cB aS _ st n td nd nh pl bs kd ag bo pa dm dn hh hn pg ag sd ik ks ktd knd knh kbs kag kbo kpa kdm kdn khh khn (mx (mx (dgH n kd ag bo pa dm dn nd td n) ((nI (wkF n (nmF kd ag) n)).toInt64)) ((chN n kd ag (nI 9) (nI 0)).toInt64)) ((chN n kd ag (nI 9) (nI 1)).toInt64) (hD.weaken (fun _ _ _ _ => trivial))) gm_675 vf_X3_mix ⟨Nat.le_of_ble_eq_true rfl, Nat.le_of_ble_eq_true rfl⟩ ⟨rfl, rfl⟩ ⟨Nat.zero_le _, Nat.zero_le _⟩ (RP.preV hK hP (q0 := 0) (ci := 3) MW_g0 rfl) rfl hl.1 rfl (Nat.le_of_ble_eq_true rfl) dX3_digest_65 hS (inW_all hD) (fun u_8 H1 locs hpo_8 hP1 hk1 hS => ?_)
      have hP : va_P D vwCl (MW cI cB b st n td nd nh pl bs kd ag bo pa dm dn hh hn pg ag sd ik ks ktd knd knh kbs kag kbo kpa kdm kdn khh khn (mx (mx (mx (dgH n kd ag bo pa dm dn nd td n) ((nI (wkF n (nmF kd ag) n)).toInt64)) ((chN n kd ag (nI 9) (nI 0)).toInt64)) ((chN n kd ag (nI 9) (nI 1)).toInt64))) H1 := hP1
      have hD : va_D A (MW cI cB b st n td nd nh pl bs kd ag bo pa dm dn hh hn pg ag sd ik ks ktd knd knh kbs kag kbo kpa kdm kdn khh khn (mx (mx (mx (dgH n kd ag bo pa dm dn nd td n) ((nI (wkF n (nmF kd ag) n)).toInt64)) ((chN n kd ag (nI 9) (nI 0)).toInt64)) ((chN n kd ag (nI 9) (nI 1)).toInt64))) := hD.addr (MW_addr.trans MW_addr.symm)
      clear hP1 hk1
      generalize H1 = H at hP hS ⊢
      refine lv_aload_n hx hb dX3_digest_68 rfl (lv_at hl 0 rfl) ?_
      refine lv_aload_n hx hb dX3_digest_69 rfl (lv_at hl 0 rfl) ?_
      refine lv_iconst (v := (nI 0)) hx hb dX3_digest_70 (by decide) ?_
      refine rdV (As := [.int (nI 0)]) (rest := [.ref (b 0)]) hx hb hml hown hg (c_X3_daysNow l D cI cB aS _ st n td nd nh pl bs kd ag bo pa dm dn hh hn pg ag sd ik ks ktd knd knh kbs kag kbo kpa kdm kdn khh khn (mx (mx (mx (dgH n kd ag bo pa dm dn nd td n) ((nI (wkF n (nmF kd ag) n)).toInt64)) ((chN n kd ag (nI 9) (nI 0)).toInt64)) ((chN n kd ag (nI 9) (nI 1)).toInt64)) (nI 0) (by first | assumption | omega) (by first | assumption | omega) (by first | assumption | omega) (by first | assumption | omega)) gm_616 vf_X3_daysNow ⟨Nat.le_of_ble_eq_true rfl, Nat.le_of_ble_eq_true rfl⟩ ⟨rfl, rfl⟩ ⟨Nat.zero_le _, Nat.zero_le _⟩ (RP.preV hK hP (q0 := 0) (ci := 3) MW_g0 rfl) rfl hl.1 rfl (Nat.le_of_ble_eq_true rfl) dX3_digest_71 ?_
      refine lv_i2l (v := (dyF (cbF kd ag pa hh hn td nh) td (nI 0)).toInt64) hx hb dX3_digest_74 rfl ?_
      refine wrVv (As := [.long ((dyF (cbF kd ag pa hh hn td nh) td (nI 0)).toInt64)]) (rest := []) hx hb hml hown hg (c_X3_mix l D cI cB aS _ st n td nd nh pl bs kd ag bo pa dm dn hh hn pg ag sd ik ks ktd knd knh kbs kag kbo kpa kdm kdn khh khn (mx (mx (mx (dgH n kd ag bo pa dm dn nd td n) ((nI (wkF n (nmF kd ag) n)).toInt64)) ((chN n kd ag (nI 9) (nI 0)).toInt64)) ((chN n kd ag (nI 9) (nI 1)).toInt64)) ((dyF (cbF kd ag pa hh hn td nh) td (nI 0)).toInt64) (hD.weaken (fun _ _ _ _ => trivial))) gm_675 vf_X3_mix ⟨Nat.le_of_ble_eq_true rfl, Nat.le_of_ble_eq_true rfl⟩ ⟨rfl, rfl⟩ ⟨Nat.zero_le _, Nat.zero_le _⟩ (RP.preV hK hP (q0 := 0) (ci := 3) MW_g0 rfl) rfl hl.1 rfl (Nat.le_of_ble_eq_true rfl) dX3_digest_75 hS (inW_all hD) (fun u_9 H1 locs hpo_9 hP1 hk1 hS => ?_)
      have hP : va_P D vwCl (MW cI cB b st n td nd nh pl bs kd ag bo pa dm dn hh hn pg ag sd ik ks ktd knd knh kbs kag kbo kpa kdm kdn khh khn (mx (mx (mx (mx (dgH n kd ag bo pa dm dn nd td n) ((nI (wkF n (nmF kd ag) n)).toInt64)) ((chN n kd ag (nI 9) (nI 0)).toInt64)) ((chN n kd ag (nI 9) (nI 1)).toInt64)) ((dyF (cbF kd ag pa hh hn td nh) td (nI 0)).toInt64))) H1 := hP1
      have hD : va_D A (MW cI cB b st n td nd nh pl bs kd ag bo pa dm dn hh hn pg ag sd ik ks ktd knd knh kbs kag kbo kpa kdm kdn khh khn (mx (mx (mx (mx (dgH n kd ag bo pa dm dn nd td n) ((nI (wkF n (nmF kd ag) n)).toInt64)) ((chN n kd ag (nI 9) (nI 0)).toInt64)) ((chN n kd ag (nI 9) (nI 1)).toInt64)) ((dyF (cbF kd ag pa hh hn td nh) td (nI 0)).toInt64))) := hD.addr (MW_addr.trans MW_addr.symm)
      clear hP1 hk1
      generalize H1 = H at hP hS ⊢
      refine lv_aload_n hx hb dX3_digest_78 rfl (lv_at hl 0 rfl) ?_
      refine lv_aload_n hx hb dX3_digest_79 rfl (lv_at hl 0 rfl) ?_
      refine lv_iconst (v := (nI 1)) hx hb dX3_digest_80 (by decide) ?_
      refine rdV (As := [.int (nI 1)]) (rest := [.ref (b 0)]) hx hb hml hown hg (c_X3_daysNow l D cI cB aS _ st n td nd nh pl bs kd ag bo pa dm dn hh hn pg ag sd ik ks ktd knd knh kbs kag kbo kpa kdm kdn khh khn (mx (mx (mx (mx (dgH n kd ag bo pa dm dn nd td n) ((nI (wkF n (nmF kd ag) n)).toInt64)) ((chN n kd ag (nI 9) (nI 0)).toInt64)) ((chN n kd ag (nI 9) (nI 1)).toInt64)) ((dyF (cbF kd ag pa hh hn td nh) td (nI 0)).toInt64)) (nI 1) (by first | assumption | omega) (by first | assumption | omega) (by first | assumption | omega) (by first | assumption | omega)) gm_616 vf_X3_daysNow ⟨Nat.le_of_ble_eq_true rfl, Nat.le_of_ble_eq_true rfl⟩ ⟨rfl, rfl⟩ ⟨Nat.zero_le _, Nat.zero_le _⟩ (RP.preV hK hP (q0 := 0) (ci := 3) MW_g0 rfl) rfl hl.1 rfl (Nat.le_of_ble_eq_true rfl) dX3_digest_81 ?_
      refine lv_i2l (v := (dyF (cbF kd ag pa hh hn td nh) td (nI 1)).toInt64) hx hb dX3_digest_84 rfl ?_
      refine wrVv (As := [.long ((dyF (cbF kd ag pa hh hn td nh) td (nI 1)).toInt64)]) (rest := []) hx hb hml hown hg (c_X3_mix l D cI cB aS _ st n td nd nh pl bs kd ag bo pa dm dn hh hn pg ag sd ik ks ktd knd knh kbs kag kbo kpa kdm kdn khh khn (mx (mx (mx (mx (dgH n kd ag bo pa dm dn nd td n) ((nI (wkF n (nmF kd ag) n)).toInt64)) ((chN n kd ag (nI 9) (nI 0)).toInt64)) ((chN n kd ag (nI 9) (nI 1)).toInt64)) ((dyF (cbF kd ag pa hh hn td nh) td (nI 0)).toInt64)) ((dyF (cbF kd ag pa hh hn td nh) td (nI 1)).toInt64) (hD.weaken (fun _ _ _ _ => trivial))) gm_675 vf_X3_mix ⟨Nat.le_of_ble_eq_true rfl, Nat.le_of_ble_eq_true rfl⟩ ⟨rfl, rfl⟩ ⟨Nat.zero_le _, Nat.zero_le _⟩ (RP.preV hK hP (q0 := 0) (ci := 3) MW_g0 rfl) rfl hl.1 rfl (Nat.le_of_ble_eq_true rfl) dX3_digest_85 hS (inW_all hD) (fun u_10 H1 locs hpo_10 hP1 hk1 hS => ?_)
      have hP : va_P D vwCl (MW cI cB b st n td nd nh pl bs kd ag bo pa dm dn hh hn pg ag sd ik ks ktd knd knh kbs kag kbo kpa kdm kdn khh khn (mx (mx (mx (mx (mx (dgH n kd ag bo pa dm dn nd td n) ((nI (wkF n (nmF kd ag) n)).toInt64)) ((chN n kd ag (nI 9) (nI 0)).toInt64)) ((chN n kd ag (nI 9) (nI 1)).toInt64)) ((dyF (cbF kd ag pa hh hn td nh) td (nI 0)).toInt64)) ((dyF (cbF kd ag pa hh hn td nh) td (nI 1)).toInt64))) H1 := hP1
      have hD : va_D A (MW cI cB b st n td nd nh pl bs kd ag bo pa dm dn hh hn pg ag sd ik ks ktd knd knh kbs kag kbo kpa kdm kdn khh khn (mx (mx (mx (mx (mx (dgH n kd ag bo pa dm dn nd td n) ((nI (wkF n (nmF kd ag) n)).toInt64)) ((chN n kd ag (nI 9) (nI 0)).toInt64)) ((chN n kd ag (nI 9) (nI 1)).toInt64)) ((dyF (cbF kd ag pa hh hn td nh) td (nI 0)).toInt64)) ((dyF (cbF kd ag pa hh hn td nh) td (nI 1)).toInt64))) := hD.addr (MW_addr.trans MW_addr.symm)
      clear hP1 hk1
      generalize H1 = H at hP hS ⊢
      refine lv_aload_n hx hb dX3_digest_88 rfl (lv_at hl 0 rfl) ?_
      refine lv_aload_n hx hb dX3_digest_89 rfl (lv_at hl 0 rfl) ?_
      refine rdV (As := []) (rest := [.ref (b 0)]) hx hb hml hown hg (c_X3_askNow l D cI cB aS _ st n td nd nh pl bs kd ag bo pa dm dn hh hn pg ag sd ik ks ktd knd knh kbs kag kbo kpa kdm kdn khh khn (mx (mx (mx (mx (mx (dgH n kd ag bo pa dm dn nd td n) ((nI (wkF n (nmF kd ag) n)).toInt64)) ((chN n kd ag (nI 9) (nI 0)).toInt64)) ((chN n kd ag (nI 9) (nI 1)).toInt64)) ((dyF (cbF kd ag pa hh hn td nh) td (nI 0)).toInt64)) ((dyF (cbF kd ag pa hh hn td nh) td (nI 1)).toInt64)) (by first | assumption | omega) (by first | assumption | omega) (by first | assumption | omega) (by first | assumption | omega)) gm_626 vf_X3_askNow ⟨Nat.le_of_ble_eq_true rfl, Nat.le_of_ble_eq_true rfl⟩ ⟨rfl, rfl⟩ ⟨Nat.zero_le _, Nat.zero_le _⟩ (RP.preV hK hP (q0 := 0) (ci := 3) MW_g0 rfl) rfl hl.1 rfl (Nat.le_of_ble_eq_true rfl) dX3_digest_90 ?_
      refine lv_i2l (v := (askF n kd ag pa (cbF kd ag pa hh hn td nh) td).toInt64) hx hb dX3_digest_93 rfl ?_
      refine wrVv (As := [.long ((askF n kd ag pa (cbF kd ag pa hh hn td nh) td).toInt64)]) (rest := []) hx hb hml hown hg (c_X3_mix l D cI cB aS _ st n td nd nh pl bs kd ag bo pa dm dn hh hn pg ag sd ik ks ktd knd knh kbs kag kbo kpa kdm kdn khh khn (mx (mx (mx (mx (mx (dgH n kd ag bo pa dm dn nd td n) ((nI (wkF n (nmF kd ag) n)).toInt64)) ((chN n kd ag (nI 9) (nI 0)).toInt64)) ((chN n kd ag (nI 9) (nI 1)).toInt64)) ((dyF (cbF kd ag pa hh hn td nh) td (nI 0)).toInt64)) ((dyF (cbF kd ag pa hh hn td nh) td (nI 1)).toInt64)) ((askF n kd ag pa (cbF kd ag pa hh hn td nh) td).toInt64) (hD.weaken (fun _ _ _ _ => trivial))) gm_675 vf_X3_mix ⟨Nat.le_of_ble_eq_true rfl, Nat.le_of_ble_eq_true rfl⟩ ⟨rfl, rfl⟩ ⟨Nat.zero_le _, Nat.zero_le _⟩ (RP.preV hK hP (q0 := 0) (ci := 3) MW_g0 rfl) rfl hl.1 rfl (Nat.le_of_ble_eq_true rfl) dX3_digest_94 hS (inW_all hD) (fun u_11 H1 locs hpo_11 hP1 hk1 hS => ?_)
      have hP : va_P D vwCl (MW cI cB b st n td nd nh pl bs kd ag bo pa dm dn hh hn pg ag sd ik ks ktd knd knh kbs kag kbo kpa kdm kdn khh khn (mx (mx (mx (mx (mx (mx (dgH n kd ag bo pa dm dn nd td n) ((nI (wkF n (nmF kd ag) n)).toInt64)) ((chN n kd ag (nI 9) (nI 0)).toInt64)) ((chN n kd ag (nI 9) (nI 1)).toInt64)) ((dyF (cbF kd ag pa hh hn td nh) td (nI 0)).toInt64)) ((dyF (cbF kd ag pa hh hn td nh) td (nI 1)).toInt64)) ((askF n kd ag pa (cbF kd ag pa hh hn td nh) td).toInt64))) H1 := hP1
      have hD : va_D A (MW cI cB b st n td nd nh pl bs kd ag bo pa dm dn hh hn pg ag sd ik ks ktd knd knh kbs kag kbo kpa kdm kdn khh khn (mx (mx (mx (mx (mx (mx (dgH n kd ag bo pa dm dn nd td n) ((nI (wkF n (nmF kd ag) n)).toInt64)) ((chN n kd ag (nI 9) (nI 0)).toInt64)) ((chN n kd ag (nI 9) (nI 1)).toInt64)) ((dyF (cbF kd ag pa hh hn td nh) td (nI 0)).toInt64)) ((dyF (cbF kd ag pa hh hn td nh) td (nI 1)).toInt64)) ((askF n kd ag pa (cbF kd ag pa hh hn td nh) td).toInt64))) := hD.addr (MW_addr.trans MW_addr.symm)
      clear hP1 hk1
      generalize H1 = H at hP hS ⊢
      have e_12 : mx (mx (mx (mx (mx (mx (dgH n kd ag bo pa dm dn nd td n) ((nI (wkF n (nmF kd ag) n)).toInt64)) ((chN n kd ag (nI 9) (nI 0)).toInt64)) ((chN n kd ag (nI 9) (nI 1)).toInt64)) ((dyF (cbF kd ag pa hh hn td nh) td (nI 0)).toInt64)) ((dyF (cbF kd ag pa hh hn td nh) td (nI 1)).toInt64)) ((askF n kd ag pa (cbF kd ag pa hh hn td nh) td).toInt64) = dgS n kd ag pa td (cbF kd ag pa hh hn td nh) (dgH n kd ag bo pa dm dn nd td n) := (if_neg c_32).symm
      rw [e_12] at hP hD
      have hP : va_P D vwCl (MW cI cB b st n td nd nh pl bs kd ag bo pa dm dn hh hn pg ag sd ik ks ktd knd knh kbs kag kbo kpa kdm kdn khh khn (dgS n kd ag pa td (cbF kd ag pa hh hn td nh) (dgH n kd ag bo pa dm dn nd td n))) H := hP
      have hD : va_D A (MW cI cB b st n td nd nh pl bs kd ag bo pa dm dn hh hn pg ag sd ik ks ktd knd knh kbs kag kbo kpa kdm kdn khh khn (dgS n kd ag pa td (cbF kd ag pa hh hn td nh) (dgH n kd ag bo pa dm dn nd td n))) := hD
      refine lv_iconst (v := (nI 0)) hx hb dX3_digest_97 (by decide) ?_
      refine lv_istore_n (lv' := [(1, .int (nI 0)), (0, .ref (b 0))]) hx hb dX3_digest_98 rfl hl (by decide) rfl (fun ls hl => ?_)
      -- loop at 99
      refine loopW (nL := 2) (S := Unit) (B := pl) (I := fun i u => True) (lv := fun i u => [(0, .ref (b 0)), (1, .int (nI i))]) (wf := fun i u => MW cI cB b st n td nd nh pl bs kd ag bo pa dm dn hh hn pg ag sd ik ks ktd knd knh kbs kag kbo kpa kdm kdn khh khn (mxL (fun k => (pg k).toInt64) (dgS n kd ag pa td (cbF kd ag pa hh hn td nh) (dgH n kd ag bo pa dm dn nd td n)) i)) 0 () (Nat.zero_le _) (trivial) (lv_sub hl [1, 0] rfl) hP (hD.addr (MW_addr.trans MW_addr.symm)) hS (fun i u ls H locs hj hI hl hP hD hS ih => ?_)
      have hP : va_P D vwCl (MW cI cB b st n td nd nh pl bs kd ag bo pa dm dn hh hn pg ag sd ik ks ktd knd knh kbs kag kbo kpa kdm kdn khh khn (mxL (fun k => (pg k).toInt64) (dgS n kd ag pa td (cbF kd ag pa hh hn td nh) (dgH n kd ag bo pa dm dn nd td n)) i)) H := hP
      have hD : va_D A (MW cI cB b st n td nd nh pl bs kd ag bo pa dm dn hh hn pg ag sd ik ks ktd knd knh kbs kag kbo kpa kdm kdn khh khn (mxL (fun k => (pg k).toInt64) (dgS n kd ag pa td (cbF kd ag pa hh hn td nh) (dgH n kd ag bo pa dm dn nd td n)) i)) := hD
      have hl : lv_has ls 2 [(0, .ref (b 0)), (1, .int (nI i))] := hl
      have ih_99 := ih
      refine lv_iload_n hx hb dX3_digest_99 rfl (lv_at hl 1 rfl) ?_
      refine lv_aload_n hx hb dX3_digest_100 rfl (lv_at hl 0 rfl) ?_
      refine va_get (D := D) (ci := 3) (v := .int (nI pl)) (C := RX3) (T := TX3) (N := 32) hx hb hg us_X3 hown hK.1 hP 0 MW_g0 rfl 14 (by decide) (hg _ gm_415) (fun _ h9 => h9) rfl dX3_digest_101 ?_
      refine nv_icmp_ge (tgt := 124) hx hb dX3_digest_104 (by omega) (by omega) (by decide) (fun c_104 => ?_) (fun c_104 => ?_)
      · skip
        have ein : pl = i := by omega
        subst ein
        refine lv_iconst (v := (nI 0)) hx hb dX3_digest_124 (by decide) ?_
        refine lv_istore_n (lv' := [(1, .int (nI 0)), (0, .ref (b 0))]) hx hb dX3_digest_125 rfl hl (by decide) rfl (fun ls hl => ?_)
        -- loop at 126
        refine loopW (nL := 2) (S := Unit) (B := 10) (I := fun i u => True) (lv := fun i u => [(0, .ref (b 0)), (1, .int (nI i))]) (wf := fun i u => MW cI cB b st n td nd nh pl bs kd ag bo pa dm dn hh hn pg ag sd ik ks ktd knd knh kbs kag kbo kpa kdm kdn khh khn (mxL (fun w => (hmF n td bs kd ag dm dn nd nh pl st w).toInt64) (mxL (fun k => (pg k).toInt64) (dgS n kd ag pa td (cbF kd ag pa hh hn td nh) (dgH n kd ag bo pa dm dn nd td n)) pl) i)) 0 () (Nat.zero_le _) (trivial) (lv_sub hl [1, 0] rfl) hP (hD.addr (MW_addr.trans MW_addr.symm)) hS (fun i u ls H locs hj hI hl hP hD hS ih => ?_)
        have hP : va_P D vwCl (MW cI cB b st n td nd nh pl bs kd ag bo pa dm dn hh hn pg ag sd ik ks ktd knd knh kbs kag kbo kpa kdm kdn khh khn (mxL (fun w => (hmF n td bs kd ag dm dn nd nh pl st w).toInt64) (mxL (fun k => (pg k).toInt64) (dgS n kd ag pa td (cbF kd ag pa hh hn td nh) (dgH n kd ag bo pa dm dn nd td n)) pl) i)) H := hP
        have hD : va_D A (MW cI cB b st n td nd nh pl bs kd ag bo pa dm dn hh hn pg ag sd ik ks ktd knd knh kbs kag kbo kpa kdm kdn khh khn (mxL (fun w => (hmF n td bs kd ag dm dn nd nh pl st w).toInt64) (mxL (fun k => (pg k).toInt64) (dgS n kd ag pa td (cbF kd ag pa hh hn td nh) (dgH n kd ag bo pa dm dn nd td n)) pl) i)) := hD
        have hl : lv_has ls 2 [(0, .ref (b 0)), (1, .int (nI i))] := hl
        have ih_126 := ih
        refine lv_iload_n hx hb dX3_digest_126 rfl (lv_at hl 1 rfl) ?_
        refine lv_bipush (v := (nI 10)) hx hb dX3_digest_127 (by decide) ?_
        refine nv_icmp_ge (tgt := 148) hx hb dX3_digest_129 (by omega) (by omega) (by decide) (fun c_129 => ?_) (fun c_129 => ?_)
        · skip
          have ein : i = 10 := by omega
          subst ein
          refine lv_aload_n hx hb dX3_digest_148 rfl (lv_at hl 0 rfl) ?_
          refine va_get (D := D) (ci := 3) (v := .long (mxL (fun w => (hmF n td bs kd ag dm dn nd nh pl st w).toInt64) (mxL (fun k => (pg k).toInt64) (dgS n kd ag pa td (cbF kd ag pa hh hn td nh) (dgH n kd ag bo pa dm dn nd td n)) pl) 10)) (C := RX3) (T := TX3) (N := 32) hx hb hg us_X3 hown hK.1 hP 0 MW_g0 rfl 31 (by decide) (hg _ gm_432) (fun _ h9 => h9) rfl dX3_digest_149 ?_
          subst hAe
          exact wr_l (w1 := fun (u : (Nat → Int32) × Int64) => MW cI cB b st n td nd nh pl bs kd ag bo pa dm dn hh hn pg u.1 sd ik ks ktd knd knh kbs kag kbo kpa kdm kdn khh khn u.2) hx hb hr hlocks hS (ag, mxL (fun w => (hmF n td bs kd ag dm dn nd nh pl st w).toInt64) (mxL (fun k => (pg k).toInt64) (dgS n kd ag pa td (cbF kd ag pa hh hn td nh) (dgH n kd ag bo pa dm dn nd td n)) pl) 10) hP dX3_digest_152 rfl
        · skip
          refine lv_aload_n hx hb dX3_digest_132 rfl (lv_at hl 0 rfl) ?_
          refine lv_aload_n hx hb dX3_digest_133 rfl (lv_at hl 0 rfl) ?_
          refine lv_iload_n hx hb dX3_digest_134 rfl (lv_at hl 1 rfl) ?_
          refine rdV (As := [.int (nI i)]) (rest := [.ref (b 0)]) hx hb hml hown hg (c_X3_howMany l D cI cB aS _ st n td nd nh pl bs kd ag bo pa dm dn hh hn pg ag sd ik ks ktd knd knh kbs kag kbo kpa kdm kdn khh khn (mxL (fun w => (hmF n td bs kd ag dm dn nd nh pl st w).toInt64) (mxL (fun k => (pg k).toInt64) (dgS n kd ag pa td (cbF kd ag pa hh hn td nh) (dgH n kd ag bo pa dm dn nd td n)) pl) i) (nI i) (by first | assumption | omega) (by first | assumption | omega) (by first | assumption | omega)) gm_658 vf_X3_howMany ⟨Nat.le_of_ble_eq_true rfl, Nat.le_of_ble_eq_true rfl⟩ ⟨rfl, rfl⟩ ⟨Nat.zero_le _, Nat.zero_le _⟩ (RP.preV hK hP (q0 := 0) (ci := 3) MW_g0 rfl) rfl hl.1 rfl (Nat.le_of_ble_eq_true rfl) dX3_digest_135 ?_
          rw [show ((cntF n td bs kd ag dm dn nd nh pl st (nI i)) : Int32) = (hmF n td bs kd ag dm dn nd nh pl st i) from cnt_ok (by omega)]
          refine lv_i2l (v := (hmF n td bs kd ag dm dn nd nh pl st i).toInt64) hx hb dX3_digest_138 rfl ?_
          refine wrVv (As := [.long ((hmF n td bs kd ag dm dn nd nh pl st i).toInt64)]) (rest := []) hx hb hml hown hg (c_X3_mix l D cI cB aS _ st n td nd nh pl bs kd ag bo pa dm dn hh hn pg ag sd ik ks ktd knd knh kbs kag kbo kpa kdm kdn khh khn (mxL (fun w => (hmF n td bs kd ag dm dn nd nh pl st w).toInt64) (mxL (fun k => (pg k).toInt64) (dgS n kd ag pa td (cbF kd ag pa hh hn td nh) (dgH n kd ag bo pa dm dn nd td n)) pl) i) ((hmF n td bs kd ag dm dn nd nh pl st i).toInt64) (hD.weaken (fun _ _ _ _ => trivial))) gm_675 vf_X3_mix ⟨Nat.le_of_ble_eq_true rfl, Nat.le_of_ble_eq_true rfl⟩ ⟨rfl, rfl⟩ ⟨Nat.zero_le _, Nat.zero_le _⟩ (RP.preV hK hP (q0 := 0) (ci := 3) MW_g0 rfl) rfl hl.1 rfl (Nat.le_of_ble_eq_true rfl) dX3_digest_139 hS (inW_all hD) (fun u_13 H1 locs hpo_13 hP1 hk1 hS => ?_)
          have hP : va_P D vwCl (MW cI cB b st n td nd nh pl bs kd ag bo pa dm dn hh hn pg ag sd ik ks ktd knd knh kbs kag kbo kpa kdm kdn khh khn (mx (mxL (fun w => (hmF n td bs kd ag dm dn nd nh pl st w).toInt64) (mxL (fun k => (pg k).toInt64) (dgS n kd ag pa td (cbF kd ag pa hh hn td nh) (dgH n kd ag bo pa dm dn nd td n)) pl) i) ((hmF n td bs kd ag dm dn nd nh pl st i).toInt64))) H1 := hP1
          have hD : va_D A (MW cI cB b st n td nd nh pl bs kd ag bo pa dm dn hh hn pg ag sd ik ks ktd knd knh kbs kag kbo kpa kdm kdn khh khn (mx (mxL (fun w => (hmF n td bs kd ag dm dn nd nh pl st w).toInt64) (mxL (fun k => (pg k).toInt64) (dgS n kd ag pa td (cbF kd ag pa hh hn td nh) (dgH n kd ag bo pa dm dn nd td n)) pl) i) ((hmF n td bs kd ag dm dn nd nh pl st i).toInt64))) := hD.addr (MW_addr.trans MW_addr.symm)
          clear hP1 hk1
          generalize H1 = H at hP hS ⊢
          refine lv_iinc (v := (nI (i + 1))) (lv' := [(1, .int (nI (i + 1))), (0, .ref (b 0))]) hx hb dX3_digest_142 hl (k := 1) rfl (nI_i1 _) (by decide) rfl (fun ls hl => ?_)
          refine lv_goto (tgt := 126) hx hb dX3_digest_145 (by decide) ?_
          exact ih_126 () _ _ _ (by omega) (trivial) (lv_sub hl [1, 0] rfl) hP (hD.addr (MW_addr.trans MW_addr.symm)) hS
      · skip
        refine lv_aload_n hx hb dX3_digest_107 rfl (lv_at hl 0 rfl) ?_
        refine lv_aload_n hx hb dX3_digest_108 rfl (lv_at hl 0 rfl) ?_
        refine va_get (D := D) (ci := 3) (v := .ref (b 9)) (C := RX3) (T := TX3) (N := 32) hx hb hg us_X3 hown hK.1 hP 0 MW_g0 rfl 15 (by decide) (hg _ gm_416) (fun _ h9 => h9) rfl dX3_digest_109 ?_
        refine lv_iload_n hx hb dX3_digest_112 rfl (lv_at hl 1 rfl) ?_
        refine nv_bald hx hb hK.1 hP 9 1 MW_g9 rfl (by omega) (by omega) dX3_digest_113 ?_
        refine lv_i2l (v := (pg i).toInt64) hx hb dX3_digest_114 rfl ?_
        refine wrVv (As := [.long ((pg i).toInt64)]) (rest := []) hx hb hml hown hg (c_X3_mix l D cI cB aS _ st n td nd nh pl bs kd ag bo pa dm dn hh hn pg ag sd ik ks ktd knd knh kbs kag kbo kpa kdm kdn khh khn (mxL (fun k => (pg k).toInt64) (dgS n kd ag pa td (cbF kd ag pa hh hn td nh) (dgH n kd ag bo pa dm dn nd td n)) i) ((pg i).toInt64) (hD.weaken (fun _ _ _ _ => trivial))) gm_675 vf_X3_mix ⟨Nat.le_of_ble_eq_true rfl, Nat.le_of_ble_eq_true rfl⟩ ⟨rfl, rfl⟩ ⟨Nat.zero_le _, Nat.zero_le _⟩ (RP.preV hK hP (q0 := 0) (ci := 3) MW_g0 rfl) rfl hl.1 rfl (Nat.le_of_ble_eq_true rfl) dX3_digest_115 hS (inW_all hD) (fun u_14 H1 locs hpo_14 hP1 hk1 hS => ?_)
        have hP : va_P D vwCl (MW cI cB b st n td nd nh pl bs kd ag bo pa dm dn hh hn pg ag sd ik ks ktd knd knh kbs kag kbo kpa kdm kdn khh khn (mx (mxL (fun k => (pg k).toInt64) (dgS n kd ag pa td (cbF kd ag pa hh hn td nh) (dgH n kd ag bo pa dm dn nd td n)) i) ((pg i).toInt64))) H1 := hP1
        have hD : va_D A (MW cI cB b st n td nd nh pl bs kd ag bo pa dm dn hh hn pg ag sd ik ks ktd knd knh kbs kag kbo kpa kdm kdn khh khn (mx (mxL (fun k => (pg k).toInt64) (dgS n kd ag pa td (cbF kd ag pa hh hn td nh) (dgH n kd ag bo pa dm dn nd td n)) i) ((pg i).toInt64))) := hD.addr (MW_addr.trans MW_addr.symm)
        clear hP1 hk1
        generalize H1 = H at hP hS ⊢
        refine lv_iinc (v := (nI (i + 1))) (lv' := [(1, .int (nI (i + 1))), (0, .ref (b 0))]) hx hb dX3_digest_118 hl (k := 1) rfl (nI_i1 _) (by decide) rfl (fun ls hl => ?_)
        refine lv_goto (tgt := 99) hx hb dX3_digest_121 (by decide) ?_
        exact ih_99 () _ _ _ (by omega) (trivial) (lv_sub hl [1, 0] rfl) hP (hD.addr (MW_addr.trans MW_addr.symm)) hS
  · skip
    refine lv_aload_n hx hb dX3_digest_17 rfl (lv_at hl 0 rfl) ?_
    refine lv_iload_n hx hb dX3_digest_18 rfl (lv_at hl 1 rfl) ?_
    refine wrVv (As := [.int (nI i)]) (rest := []) hx hb hml hown hg (c_X3_mixHouse l D cI cB aS _ st n td nd nh pl bs kd ag bo pa dm dn hh hn pg sv sd ik ks ktd knd knh kbs kag kbo kpa kdm kdn khh khn (dgH n kd ag bo pa dm dn nd td i) i (hD.weaken (fun _ _ _ _ => trivial)) (by first | assumption | omega) (by first | assumption | omega) (by first | assumption | omega) (by first | assumption | omega)) gm_672 vf_X3_mixHouse ⟨Nat.le_of_ble_eq_true rfl, Nat.le_of_ble_eq_true rfl⟩ ⟨rfl, rfl⟩ ⟨Nat.zero_le _, Nat.zero_le _⟩ (RP.preV hK hP (q0 := 0) (ci := 3) MW_g0 rfl) rfl hl.1 rfl (Nat.le_of_ble_eq_true rfl) dX3_digest_19 hS (inW_all hD) (fun u_15 H1 locs hpo_15 hP1 hk1 hS => ?_)
    have hP : va_P D vwCl (MW cI cB b st n td nd nh pl bs kd ag bo pa dm dn hh hn pg sv sd ik ks ktd knd knh kbs kag kbo kpa kdm kdn khh khn (mhF n kd ag bo pa dm dn nd td i (dgH n kd ag bo pa dm dn nd td i))) H1 := hP1
    have hD : va_D A (MW cI cB b st n td nd nh pl bs kd ag bo pa dm dn hh hn pg sv sd ik ks ktd knd knh kbs kag kbo kpa kdm kdn khh khn (mhF n kd ag bo pa dm dn nd td i (dgH n kd ag bo pa dm dn nd td i))) := hD.addr (MW_addr.trans MW_addr.symm)
    clear hP1 hk1
    generalize H1 = H at hP hS ⊢
    refine lv_iinc (v := (nI (i + 1))) (lv' := [(1, .int (nI (i + 1))), (0, .ref (b 0))]) hx hb dX3_digest_22 hl (k := 1) rfl (nI_i1 _) (by decide) rfl (fun ls hl => ?_)
    refine lv_goto (tgt := 9) hx hb dX3_digest_25 (by decide) ?_
    exact ih_9 () _ _ _ (by omega) (trivial) (lv_sub hl [1, 0] rfl) hP (hD.addr (MW_addr.trans MW_addr.symm)) hS
