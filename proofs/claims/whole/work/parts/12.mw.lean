abbrev rm_X3_numbersBy : Room := { frames := 3, cells := 0, slots := 0, locals := 65 }
theorem vf_X3_load : vfacts RX3 yX3_load cX3_load 2 none 0 := ⟨⟨rfl, by decide +kernel, by decide +kernel, by decide +kernel⟩, gm_594, gm_727, gm_5, gm_595⟩
theorem sf_X3_isIn : sfacts RX3 yX3_isIn cX3_isIn 2 (some .boolean) 2 := ⟨⟨rfl, by decide +kernel, by decide +kernel, by decide +kernel⟩, gm_588, gm_5, gm_589⟩
set_option maxRecDepth 100000 in
set_option maxHeartbeats 4000000 in
theorem c_X3_numbersBy (l : Launch) (D : va_G) (cI cB : ClassId) (aS : Nat) (b : Nat → Nat) (st n td nd nh pl : Nat) (bs : Int32) (kd ag bo pa dm dn hh hn pg sv : Nat → Int32) (sd : Int64) (ik : Int32) (ks ktd knd knh : Nat) (kbs : Int32) (kag kbo kpa kdm kdn khh khn : Nat → Int32) (hf : Int64) (set : Nat) (hD0 : va_D (fun _ => True) (MW cI cB b st n td nd nh pl bs kd ag bo pa dm dn hh hn pg sv sd ik ks ktd knd knh kbs kag kbo kpa kdm kdn khh khn hf)) (q1 : set < 64) (hn6 : n ≤ 6) : Met l yX3_numbersBy (mw yX3_numbersBy cX3_numbersBy 4 (some .int)) rm_X3_numbersBy (RP D cI cB aS (MW cI cB b st n td nd nh pl bs kd ag bo pa dm dn hh hn pg sv sd ik ks ktd knd knh kbs kag kbo kpa kdm kdn khh khn hf) [.ref (b 0), .int (nI set)]) (wq mkI (MW cI cB b st n td nd nh pl bs kd ag bo pa dm dn hh hn pg sv sd ik ks ktd knd knh kbs kag kbo kpa kdm kdn khh khn hf) (fun (_ : Unit) => MW cI cB b st n td nd nh pl bs kd sv bo pa dm dn hh hn pg sv sd ik ks ktd knd knh kbs kag kbo kpa kdm kdn khh khn hf) D (fun (r : Int32) (_ : Unit) => r = (nbR n kd ag set))) 0 0 (inW (MW cI cB b st n td nd nh pl bs kd ag bo pa dm dn hh hn pg sv sd ik ks ktd knd knh kbs kag kbo kpa kdm kdn khh khn hf)) := by
  refine met_of (by decide) (Nat.le_of_ble_eq_true rfl) ?_
  intro p e s m below meth c ls hx hb hr hml hown hg hlocks hin hK hP hl
  have hown : s.vm.findClass RX3 = some m.cls := hown
  have hl : lv_has ls 4 [(0, .ref (b 0)), (1, .int (nI set))] := hl
  have hD := hD0.here
  have hS0 : va_S (inW (MW cI cB b st n td nd nh pl bs kd ag bo pa dm dn hh hn pg sv sd ik ks ktd knd knh kbs kag kbo kpa kdm kdn khh khn hf)) s.heap s.heap [] := va_S.rf
  obtain ⟨H, hH⟩ : ∃ H, H = s.heap := ⟨_, rfl⟩
  have hS : va_S (inW (MW cI cB b st n td nd nh pl bs kd ag bo pa dm dn hh hn pg sv sd ik ks ktd knd knh kbs kag kbo kpa kdm kdn khh khn hf)) s.heap H [] := by rw [hH]; exact hS0
  clear hS0
  rw [← hH] at hP ⊢
  generalize hAe : inW (MW cI cB b st n td nd nh pl bs kd ag bo pa dm dn hh hn pg sv sd ik ks ktd knd knh kbs kag kbo kpa kdm kdn khh khn hf) = A at hD hS ⊢
  refine lv_iconst (v := (nI 1)) hx hb dX3_numbersBy_0 (by decide) ?_
  refine lv_istore_n (lv' := [(2, .int (nI 1)), (0, .ref (b 0)), (1, .int (nI set))]) hx hb dX3_numbersBy_1 rfl hl (by decide) rfl (fun ls hl => ?_)
  refine lv_iconst (v := (nI 0)) hx hb dX3_numbersBy_2 (by decide) ?_
  refine lv_istore_n (lv' := [(3, .int (nI 0)), (2, .int (nI 1)), (0, .ref (b 0)), (1, .int (nI set))]) hx hb dX3_numbersBy_3 rfl hl (by decide) rfl (fun ls hl => ?_)
  -- loop at 4
  refine loopW (nL := 4) (S := Unit) (B := n) (I := fun i u => True) (lv := fun i u => [(0, .ref (b 0)), (1, .int (nI set)), (2, .int (bi (al (nbP kd set) i = true))), (3, .int (nI i))]) (wf := fun i u => MW cI cB b st n td nd nh pl bs kd (brS n kd ag set i) bo pa dm dn hh hn pg sv sd ik ks ktd knd knh kbs kag kbo kpa kdm kdn khh khn hf) 0 () (Nat.zero_le _) (trivial) (by show lv_has ls 4 [(0, .ref (b 0)), (1, .int (nI set)), (2, .int (bi (al (nbP kd set) 0 = true))), (3, .int (nI 0))]; exact lv_sub hl [2, 3, 1, 0] rfl) hP (hD.addr (MW_addr.trans MW_addr.symm)) hS (fun i u ls H locs hj hI hl hP hD hS ih => ?_)
  have hP : va_P D vwCl (MW cI cB b st n td nd nh pl bs kd (brS n kd ag set i) bo pa dm dn hh hn pg sv sd ik ks ktd knd knh kbs kag kbo kpa kdm kdn khh khn hf) H := hP
  have hD : va_D A (MW cI cB b st n td nd nh pl bs kd (brS n kd ag set i) bo pa dm dn hh hn pg sv sd ik ks ktd knd knh kbs kag kbo kpa kdm kdn khh khn hf) := hD
  have hl : lv_has ls 4 [(0, .ref (b 0)), (1, .int (nI set)), (2, .int (bi (al (nbP kd set) i = true))), (3, .int (nI i))] := hl
  have ih_4 := ih
  refine lv_iload_n hx hb dX3_numbersBy_4 rfl (lv_at hl 3 rfl) ?_
  refine lv_aload_n hx hb dX3_numbersBy_5 rfl (lv_at hl 0 rfl) ?_
  refine va_get (D := D) (ci := 3) (v := .int (nI n)) (C := RX3) (T := TX3) (N := 32) hx hb hg us_X3 hown hK.1 hP 0 MW_g0 rfl 1 (by decide) (hg _ gm_402) (fun _ h9 => h9) rfl dX3_numbersBy_6 ?_
  refine nv_icmp_ge (tgt := 49) hx hb dX3_numbersBy_9 (by omega) (by omega) (by decide) (fun c_9 => ?_) (fun c_9 => ?_)
  · skip
    refine lv_aload_n hx hb dX3_numbersBy_49 rfl (lv_at hl 0 rfl) ?_
    refine rdV (As := []) (rest := []) hx hb hml hown hg (c_X3_numbersAll l D cI cB aS _ st n td nd nh pl bs kd (brS n kd ag set i) bo pa dm dn hh hn pg sv sd ik ks ktd knd knh kbs kag kbo kpa kdm kdn khh khn hf (by first | assumption | omega)) gm_590 vf_X3_numbersAll ⟨Nat.le_of_ble_eq_true rfl, Nat.le_of_ble_eq_true rfl⟩ ⟨rfl, rfl⟩ ⟨Nat.zero_le _, Nat.zero_le _⟩ (RP.preV hK hP (q0 := 0) (ci := 3) MW_g0 rfl) rfl hl.1 rfl (Nat.le_of_ble_eq_true rfl) dX3_numbersBy_50 ?_
    refine lv_istore_n (lv' := [(3, .int (sm (nmF kd (brS n kd ag set i)) n)), (0, .ref (b 0)), (1, .int (nI set)), (2, .int (bi (al (nbP kd set) i = true)))]) hx hb dX3_numbersBy_53 rfl hl (by decide) rfl (fun ls hl => ?_)
    refine lv_aload_n hx hb dX3_numbersBy_54 rfl (lv_at hl 1 rfl) ?_
    refine wrVv (As := []) (rest := []) hx hb hml hown hg (c_X3_load l D cI cB aS _ st n td nd nh pl bs kd (brS n kd ag set i) bo pa dm dn hh hn pg sv sd ik ks ktd knd knh kbs kag kbo kpa kdm kdn khh khn hf (hD.weaken (fun _ _ _ _ => trivial))) gm_593 vf_X3_load ⟨Nat.le_of_ble_eq_true rfl, Nat.le_of_ble_eq_true rfl⟩ ⟨rfl, rfl⟩ ⟨Nat.zero_le _, Nat.zero_le _⟩ (RP.preV hK hP (q0 := 0) (ci := 3) MW_g0 rfl) rfl hl.1 rfl (Nat.le_of_ble_eq_true rfl) dX3_numbersBy_55 hS (inW_all hD) (fun u_1 H1 locs hpo_1 hP1 hk1 hS => ?_)
    have hP : va_P D vwCl (MW cI cB b st n td nd nh pl bs kd sv bo pa dm dn hh hn pg sv sd ik ks ktd knd knh kbs kag kbo kpa kdm kdn khh khn hf) H1 := hP1
    have hD : va_D A (MW cI cB b st n td nd nh pl bs kd sv bo pa dm dn hh hn pg sv sd ik ks ktd knd knh kbs kag kbo kpa kdm kdn khh khn hf) := hD.addr (MW_addr.trans MW_addr.symm)
    clear hP1 hk1
    generalize H1 = H at hP hS ⊢
    refine lv_iload_n hx hb dX3_numbersBy_58 rfl (lv_at hl 3 rfl) ?_
    refine bv_if_eq (tgt := 66) hx hb dX3_numbersBy_59 (by decide) (fun c_59 => ?_) (fun c_59 => ?_)
    · skip
      refine lv_ldc (v := (268435456 : Int32)) hx hb hown (hg _ gm_596) dX3_numbersBy_66 ?_
      subst hAe
      exact wr_i (w1 := fun (_ : Unit) => MW cI cB b st n td nd nh pl bs kd sv bo pa dm dn hh hn pg sv sd ik ks ktd knd knh kbs kag kbo kpa kdm kdn khh khn hf) hx hb hr hlocks hS () hP dX3_numbersBy_68 (by unfold nbR nbV; rw [← show i = n by omega, if_neg c_59])
    · skip
      refine lv_iload_n hx hb dX3_numbersBy_62 rfl (lv_at hl 0 rfl) ?_
      refine lv_goto (tgt := 68) hx hb dX3_numbersBy_63 (by decide) ?_
      subst hAe
      exact wr_i (w1 := fun (_ : Unit) => MW cI cB b st n td nd nh pl bs kd sv bo pa dm dn hh hn pg sv sd ik ks ktd knd knh kbs kag kbo kpa kdm kdn khh khn hf) hx hb hr hlocks hS () hP dX3_numbersBy_68 (by unfold nbR nbV; rw [← show i = n by omega, if_pos c_59])
  · skip
    refine lv_iload_n hx hb dX3_numbersBy_12 rfl (lv_at hl 1 rfl) ?_
    refine lv_iload_n hx hb dX3_numbersBy_13 rfl (lv_at hl 3 rfl) ?_
    refine rdS (As := [.int (nI set), .int (nI i)]) (rest := []) hx hb hml hown hg (c_X3_isIn l D cI cB aS set i (by first | assumption | omega) (by first | assumption | omega)) gm_587 sf_X3_isIn ⟨Nat.le_of_ble_eq_true rfl, Nat.le_of_ble_eq_true rfl⟩ ⟨rfl, rfl⟩ ⟨Nat.zero_le _, Nat.zero_le _⟩ (RP.preS hK (fun k q h => by simp at h)) rfl hl.1 rfl (Nat.le_of_ble_eq_true rfl) dX3_numbersBy_14 ?_
    refine bv_if_eq (tgt := 43) hx hb dX3_numbersBy_17 (by decide) (fun c_17 => ?_) (fun c_17 => ?_)
    · skip
      refine lv_iinc (v := (nI (i + 1))) (lv' := [(3, .int (nI (i + 1))), (0, .ref (b 0)), (1, .int (nI set)), (2, .int (bi (al (nbP kd set) i = true)))]) hx hb dX3_numbersBy_43 hl (k := 3) rfl (nI_i1 _) (by decide) rfl (fun ls hl => ?_)
      refine lv_goto (tgt := 4) hx hb dX3_numbersBy_46 (by decide) ?_
      exact ih_4 () _ _ _ (by omega) (trivial) (by show lv_has ls 4 [(0, .ref (b 0)), (1, .int (nI set)), (2, .int (bi (al (nbP kd set) (i + 1) = true))), (3, .int (nI (i + 1)))]; rw [show ((bi (al (nbP kd set) (i + 1) = true))) = (bi (al (nbP kd set) i = true)) from bi_c (al_sk (nbP_o c_17))]; exact lv_sub hl [1, 2, 3, 0] rfl) (by rw [← brS_f c_17] at hP; exact hP) (hD.addr (MW_addr.trans MW_addr.symm)) hS
    · skip
      refine lv_iload_n hx hb dX3_numbersBy_20 rfl (lv_at hl 2 rfl) ?_
      refine bv_if_eq (tgt := 36) hx hb dX3_numbersBy_21 (by decide) (fun c_21 => ?_) (fun c_21 => ?_)
      · skip
        refine lv_iconst (v := (nI 0)) hx hb dX3_numbersBy_36 (by decide) ?_
        refine lv_istore_n (lv' := [(2, .int (nI 0)), (0, .ref (b 0)), (1, .int (nI set)), (3, .int (nI i))]) hx hb dX3_numbersBy_37 rfl hl (by decide) rfl (fun ls hl => ?_)
        refine lv_aload_n hx hb dX3_numbersBy_38 rfl (lv_at hl 1 rfl) ?_
        refine lv_iload_n hx hb dX3_numbersBy_39 rfl (lv_at hl 3 rfl) ?_
        refine wrVv (As := [.int (nI i)]) (rest := []) hx hb hml hown hg (c_X3_ageNone l D cI cB aS _ st n td nd nh pl bs kd (brS n kd ag set i) bo pa dm dn hh hn pg sv sd ik ks ktd knd knh kbs kag kbo kpa kdm kdn khh khn hf i (hD.weaken (fun _ _ _ _ => trivial)) (by first | assumption | omega) (by first | assumption | omega)) gm_532 vf_X3_ageNone ⟨Nat.le_of_ble_eq_true rfl, Nat.le_of_ble_eq_true rfl⟩ ⟨rfl, rfl⟩ ⟨Nat.zero_le _, Nat.zero_le _⟩ (RP.preV hK hP (q0 := 0) (ci := 3) MW_g0 rfl) rfl hl.1 rfl (Nat.le_of_ble_eq_true rfl) dX3_numbersBy_40 hS (inW_all hD) (fun u_2 H1 locs hpo_2 hP1 hk1 hS => ?_)
        have hP : va_P D vwCl (MW cI cB b st n td nd nh pl bs kd (bearF n kd (brS n kd ag set i) i) bo pa dm dn hh hn pg sv sd ik ks ktd knd knh kbs kag kbo kpa kdm kdn khh khn hf) H1 := hP1
        have hD : va_D A (MW cI cB b st n td nd nh pl bs kd (bearF n kd (brS n kd ag set i) i) bo pa dm dn hh hn pg sv sd ik ks ktd knd knh kbs kag kbo kpa kdm kdn khh khn hf) := hD.addr (MW_addr.trans MW_addr.symm)
        clear hP1 hk1
        generalize H1 = H at hP hS ⊢
        refine lv_iinc (v := (nI (i + 1))) (lv' := [(3, .int (nI (i + 1))), (2, .int (nI 0)), (0, .ref (b 0)), (1, .int (nI set))]) hx hb dX3_numbersBy_43 hl (k := 3) rfl (nI_i1 _) (by decide) rfl (fun ls hl => ?_)
        refine lv_goto (tgt := 4) hx hb dX3_numbersBy_46 (by decide) ?_
        exact ih_4 () _ _ _ (by omega) (trivial) (by show lv_has ls 4 [(0, .ref (b 0)), (1, .int (nI set)), (2, .int (bi (al (nbP kd set) (i + 1) = true))), (3, .int (nI (i + 1)))]; rw [show ((bi (al (nbP kd set) (i + 1) = true))) = (nI 0) from bi_f (al_f1 c_21)]; exact lv_sub hl [2, 3, 1, 0] rfl) (by rw [← brS_t c_17] at hP; exact hP) (hD.addr (MW_addr.trans MW_addr.symm)) hS
      · skip
        refine lv_aload_n hx hb dX3_numbersBy_24 rfl (lv_at hl 0 rfl) ?_
        refine lv_iload_n hx hb dX3_numbersBy_25 rfl (lv_at hl 3 rfl) ?_
        refine rdV (As := [.int (nI i)]) (rest := []) hx hb hml hown hg (c_X3_mayBirth l D cI cB aS _ st n td nd nh pl bs kd (brS n kd ag set i) bo pa dm dn hh hn pg sv sd ik ks ktd knd knh kbs kag kbo kpa kdm kdn khh khn hf i (by first | assumption | omega)) gm_529 vf_X3_mayBirth ⟨Nat.le_of_ble_eq_true rfl, Nat.le_of_ble_eq_true rfl⟩ ⟨rfl, rfl⟩ ⟨Nat.zero_le _, Nat.zero_le _⟩ (RP.preV hK hP (q0 := 0) (ci := 3) MW_g0 rfl) rfl hl.1 rfl (Nat.le_of_ble_eq_true rfl) dX3_numbersBy_26 ?_
        refine bv_if_eq (tgt := 36) hx hb dX3_numbersBy_29 (by decide) (fun c_29 => ?_) (fun c_29 => ?_)
        · skip
          refine lv_iconst (v := (nI 0)) hx hb dX3_numbersBy_36 (by decide) ?_
          refine lv_istore_n (lv' := [(2, .int (nI 0)), (0, .ref (b 0)), (1, .int (nI set)), (3, .int (nI i))]) hx hb dX3_numbersBy_37 rfl hl (by decide) rfl (fun ls hl => ?_)
          refine lv_aload_n hx hb dX3_numbersBy_38 rfl (lv_at hl 1 rfl) ?_
          refine lv_iload_n hx hb dX3_numbersBy_39 rfl (lv_at hl 3 rfl) ?_
          refine wrVv (As := [.int (nI i)]) (rest := []) hx hb hml hown hg (c_X3_ageNone l D cI cB aS _ st n td nd nh pl bs kd (brS n kd ag set i) bo pa dm dn hh hn pg sv sd ik ks ktd knd knh kbs kag kbo kpa kdm kdn khh khn hf i (hD.weaken (fun _ _ _ _ => trivial)) (by first | assumption | omega) (by first | assumption | omega)) gm_532 vf_X3_ageNone ⟨Nat.le_of_ble_eq_true rfl, Nat.le_of_ble_eq_true rfl⟩ ⟨rfl, rfl⟩ ⟨Nat.zero_le _, Nat.zero_le _⟩ (RP.preV hK hP (q0 := 0) (ci := 3) MW_g0 rfl) rfl hl.1 rfl (Nat.le_of_ble_eq_true rfl) dX3_numbersBy_40 hS (inW_all hD) (fun u_3 H1 locs hpo_3 hP1 hk1 hS => ?_)
          have hP : va_P D vwCl (MW cI cB b st n td nd nh pl bs kd (bearF n kd (brS n kd ag set i) i) bo pa dm dn hh hn pg sv sd ik ks ktd knd knh kbs kag kbo kpa kdm kdn khh khn hf) H1 := hP1
          have hD : va_D A (MW cI cB b st n td nd nh pl bs kd (bearF n kd (brS n kd ag set i) i) bo pa dm dn hh hn pg sv sd ik ks ktd knd knh kbs kag kbo kpa kdm kdn khh khn hf) := hD.addr (MW_addr.trans MW_addr.symm)
          clear hP1 hk1
          generalize H1 = H at hP hS ⊢
          refine lv_iinc (v := (nI (i + 1))) (lv' := [(3, .int (nI (i + 1))), (2, .int (nI 0)), (0, .ref (b 0)), (1, .int (nI set))]) hx hb dX3_numbersBy_43 hl (k := 3) rfl (nI_i1 _) (by decide) rfl (fun ls hl => ?_)
          refine lv_goto (tgt := 4) hx hb dX3_numbersBy_46 (by decide) ?_
          exact ih_4 () _ _ _ (by omega) (trivial) (by show lv_has ls 4 [(0, .ref (b 0)), (1, .int (nI set)), (2, .int (bi (al (nbP kd set) (i + 1) = true))), (3, .int (nI (i + 1)))]; rw [show ((bi (al (nbP kd set) (i + 1) = true))) = (nI 0) from bi_f (al_f2 (nbP_f c_17 c_29))]; exact lv_sub hl [2, 3, 1, 0] rfl) (by rw [← brS_t c_17] at hP; exact hP) (hD.addr (MW_addr.trans MW_addr.symm)) hS
        · skip
          refine lv_iconst (v := (nI 1)) hx hb dX3_numbersBy_32 (by decide) ?_
          refine lv_goto (tgt := 37) hx hb dX3_numbersBy_33 (by decide) ?_
          refine lv_istore_n (lv' := [(2, .int (nI 1)), (0, .ref (b 0)), (1, .int (nI set)), (3, .int (nI i))]) hx hb dX3_numbersBy_37 rfl hl (by decide) rfl (fun ls hl => ?_)
          refine lv_aload_n hx hb dX3_numbersBy_38 rfl (lv_at hl 1 rfl) ?_
          refine lv_iload_n hx hb dX3_numbersBy_39 rfl (lv_at hl 3 rfl) ?_
          refine wrVv (As := [.int (nI i)]) (rest := []) hx hb hml hown hg (c_X3_ageNone l D cI cB aS _ st n td nd nh pl bs kd (brS n kd ag set i) bo pa dm dn hh hn pg sv sd ik ks ktd knd knh kbs kag kbo kpa kdm kdn khh khn hf i (hD.weaken (fun _ _ _ _ => trivial)) (by first | assumption | omega) (by first | assumption | omega)) gm_532 vf_X3_ageNone ⟨Nat.le_of_ble_eq_true rfl, Nat.le_of_ble_eq_true rfl⟩ ⟨rfl, rfl⟩ ⟨Nat.zero_le _, Nat.zero_le _⟩ (RP.preV hK hP (q0 := 0) (ci := 3) MW_g0 rfl) rfl hl.1 rfl (Nat.le_of_ble_eq_true rfl) dX3_numbersBy_40 hS (inW_all hD) (fun u_4 H1 locs hpo_4 hP1 hk1 hS => ?_)
          have hP : va_P D vwCl (MW cI cB b st n td nd nh pl bs kd (bearF n kd (brS n kd ag set i) i) bo pa dm dn hh hn pg sv sd ik ks ktd knd knh kbs kag kbo kpa kdm kdn khh khn hf) H1 := hP1
          have hD : va_D A (MW cI cB b st n td nd nh pl bs kd (bearF n kd (brS n kd ag set i) i) bo pa dm dn hh hn pg sv sd ik ks ktd knd knh kbs kag kbo kpa kdm kdn khh khn hf) := hD.addr (MW_addr.trans MW_addr.symm)
          clear hP1 hk1
          generalize H1 = H at hP hS ⊢
          refine lv_iinc (v := (nI (i + 1))) (lv' := [(3, .int (nI (i + 1))), (2, .int (nI 1)), (0, .ref (b 0)), (1, .int (nI set))]) hx hb dX3_numbersBy_43 hl (k := 3) rfl (nI_i1 _) (by decide) rfl (fun ls hl => ?_)
          refine lv_goto (tgt := 4) hx hb dX3_numbersBy_46 (by decide) ?_
          exact ih_4 () _ _ _ (by omega) (trivial) (by show lv_has ls 4 [(0, .ref (b 0)), (1, .int (nI set)), (2, .int (bi (al (nbP kd set) (i + 1) = true))), (3, .int (nI (i + 1)))]; rw [show ((bi (al (nbP kd set) (i + 1) = true))) = (nI 1) from bi_t (al_t c_21 (nbP_t c_29))]; exact lv_sub hl [2, 3, 1, 0] rfl) (by rw [← brS_t c_17] at hP; exact hP) (hD.addr (MW_addr.trans MW_addr.symm)) hS
abbrev rm_X3_cheapNow : Room := { frames := 4, cells := 0, slots := 0, locals := 88 }
theorem vf_X3_save : vfacts RX3 yX3_save cX3_save 2 none 0 := ⟨⟨rfl, by decide +kernel, by decide +kernel, by decide +kernel⟩, gm_579, gm_724, gm_5, gm_580⟩
theorem sf_X3_size : sfacts RX3 yX3_size cX3_size 3 (some .int) 1 := ⟨⟨rfl, by decide +kernel, by decide +kernel, by decide +kernel⟩, gm_582, gm_5, gm_583⟩
theorem vf_X3_numbersBy : vfacts RX3 yX3_numbersBy cX3_numbersBy 4 (some .int) 1 := ⟨⟨rfl, by decide +kernel, by decide +kernel, by decide +kernel⟩, gm_585, gm_725, gm_5, gm_586⟩
set_option maxRecDepth 100000 in
set_option maxHeartbeats 4000000 in
theorem c_X3_cheapNow (l : Launch) (D : va_G) (cI cB : ClassId) (aS : Nat) (b : Nat → Nat) (st n td nd nh pl : Nat) (bs : Int32) (kd ag bo pa dm dn hh hn pg sv : Nat → Int32) (sd : Int64) (ik : Int32) (ks ktd knd knh : Nat) (kbs : Int32) (kag kbo kpa kdm kdn khh khn : Nat → Int32) (hf : Int64) (x w : Int32) (hD0 : va_D (fun _ => True) (MW cI cB b st n td nd nh pl bs kd ag bo pa dm dn hh hn pg sv sd ik ks ktd knd knh kbs kag kbo kpa kdm kdn khh khn hf)) (qx : x ≤ nI 400) (hn6 : n ≤ 6) : Met l yX3_cheapNow (mw yX3_cheapNow cX3_cheapNow 6 (some .int)) rm_X3_cheapNow (RP D cI cB aS (MW cI cB b st n td nd nh pl bs kd ag bo pa dm dn hh hn pg sv sd ik ks ktd knd knh kbs kag kbo kpa kdm kdn khh khn hf) [.ref (b 0), .int x, .int w]) (wq mkI (MW cI cB b st n td nd nh pl bs kd ag bo pa dm dn hh hn pg sv sd ik ks ktd knd knh kbs kag kbo kpa kdm kdn khh khn hf) (fun (_ : Unit) => MW cI cB b st n td nd nh pl bs kd ag bo pa dm dn hh hn pg ag sd ik ks ktd knd knh kbs kag kbo kpa kdm kdn khh khn hf) D (fun (r : Int32) (_ : Unit) => r = (chN n kd ag x w))) 0 0 (inW (MW cI cB b st n td nd nh pl bs kd ag bo pa dm dn hh hn pg sv sd ik ks ktd knd knh kbs kag kbo kpa kdm kdn khh khn hf)) := by
  refine met_of (by decide) (Nat.le_of_ble_eq_true rfl) ?_
  intro p e s m below meth c ls hx hb hr hml hown hg hlocks hin hK hP hl
  have hown : s.vm.findClass RX3 = some m.cls := hown
  have hl : lv_has ls 6 [(0, .ref (b 0)), (1, .int x), (2, .int w)] := hl
  have hD := hD0.here
  have hS0 : va_S (inW (MW cI cB b st n td nd nh pl bs kd ag bo pa dm dn hh hn pg sv sd ik ks ktd knd knh kbs kag kbo kpa kdm kdn khh khn hf)) s.heap s.heap [] := va_S.rf
  obtain ⟨H, hH⟩ : ∃ H, H = s.heap := ⟨_, rfl⟩
  have hS : va_S (inW (MW cI cB b st n td nd nh pl bs kd ag bo pa dm dn hh hn pg sv sd ik ks ktd knd knh kbs kag kbo kpa kdm kdn khh khn hf)) s.heap H [] := by rw [hH]; exact hS0
  clear hS0
  rw [← hH] at hP ⊢
  generalize hAe : inW (MW cI cB b st n td nd nh pl bs kd ag bo pa dm dn hh hn pg sv sd ik ks ktd knd knh kbs kag kbo kpa kdm kdn khh khn hf) = A at hD hS ⊢
  refine lv_aload_n hx hb dX3_cheapNow_0 rfl (lv_at hl 0 rfl) ?_
  refine wrVv (As := []) (rest := []) hx hb hml hown hg (c_X3_save l D cI cB aS _ st n td nd nh pl bs kd ag bo pa dm dn hh hn pg sv sd ik ks ktd knd knh kbs kag kbo kpa kdm kdn khh khn hf (hD.weaken (fun _ _ _ _ => trivial))) gm_578 vf_X3_save ⟨Nat.le_of_ble_eq_true rfl, Nat.le_of_ble_eq_true rfl⟩ ⟨rfl, rfl⟩ ⟨Nat.zero_le _, Nat.zero_le _⟩ (RP.preV hK hP (q0 := 0) (ci := 3) MW_g0 rfl) rfl hl.1 rfl (Nat.le_of_ble_eq_true rfl) dX3_cheapNow_1 hS (inW_all hD) (fun u_1 H1 locs hpo_1 hP1 hk1 hS => ?_)
  have hP : va_P D vwCl (MW cI cB b st n td nd nh pl bs kd ag bo pa dm dn hh hn pg ag sd ik ks ktd knd knh kbs kag kbo kpa kdm kdn khh khn hf) H1 := hP1
  have hD : va_D A (MW cI cB b st n td nd nh pl bs kd ag bo pa dm dn hh hn pg ag sd ik ks ktd knd knh kbs kag kbo kpa kdm kdn khh khn hf) := hD.addr (MW_addr.trans MW_addr.symm)
  clear hP1 hk1
  generalize H1 = H at hP hS ⊢
  refine lv_iconst (v := (-1)) hx hb dX3_cheapNow_4 (by decide) ?_
  refine lv_istore_n (lv' := [(3, .int (-1)), (0, .ref (b 0)), (1, .int x), (2, .int w)]) hx hb dX3_cheapNow_5 rfl hl (by decide) rfl (fun ls hl => ?_)
  refine lv_iconst (v := (nI 0)) hx hb dX3_cheapNow_6 (by decide) ?_
  refine lv_istore (lv' := [(4, .int (nI 0)), (3, .int (-1)), (0, .ref (b 0)), (1, .int x), (2, .int w)]) hx hb dX3_cheapNow_7 hl (by decide) rfl (fun ls hl => ?_)
  -- loop at 9
  refine loopW (nL := 6) (S := Unit) (B := (2 ^ n)) (I := fun i u => True) (lv := fun i u => [(0, .ref (b 0)), (1, .int x), (2, .int w), (3, .int (o2i (bst n kd ag x i))), (4, .int (nI i))]) (wf := fun i u => MW cI cB b st n td nd nh pl bs kd ag bo pa dm dn hh hn pg ag sd ik ks ktd knd knh kbs kag kbo kpa kdm kdn khh khn hf) 0 () (Nat.zero_le _) (trivial) (by show lv_has ls 6 [(0, .ref (b 0)), (1, .int x), (2, .int w), (3, .int (o2i (bst n kd ag x 0))), (4, .int (nI 0))]; exact lv_sub hl [2, 3, 4, 1, 0] rfl) hP (hD.addr (MW_addr.trans MW_addr.symm)) hS (fun i u ls H locs hj hI hl hP hD hS ih => ?_)
  have hP : va_P D vwCl (MW cI cB b st n td nd nh pl bs kd ag bo pa dm dn hh hn pg ag sd ik ks ktd knd knh kbs kag kbo kpa kdm kdn khh khn hf) H := hP
  have hD : va_D A (MW cI cB b st n td nd nh pl bs kd ag bo pa dm dn hh hn pg ag sd ik ks ktd knd knh kbs kag kbo kpa kdm kdn khh khn hf) := hD
  have hl : lv_has ls 6 [(0, .ref (b 0)), (1, .int x), (2, .int w), (3, .int (o2i (bst n kd ag x i))), (4, .int (nI i))] := hl
  have h64 := two_n hn6
  have hb64 : ∀ q, bst n kd ag x i = some q → q < 64 := fun q h => by have := bst_lt h; have := two_n hn6; omega
  have ih_9 := ih
  refine lv_iload hx hb dX3_cheapNow_9 (lv_at hl 4 rfl) ?_
  refine lv_iconst (v := (nI 1)) hx hb dX3_cheapNow_11 (by decide) ?_
  refine lv_aload_n hx hb dX3_cheapNow_12 rfl (lv_at hl 0 rfl) ?_
  refine va_get (D := D) (ci := 3) (v := .int (nI n)) (C := RX3) (T := TX3) (N := 32) hx hb hg us_X3 hown hK.1 hP 0 MW_g0 rfl 1 (by decide) (hg _ gm_402) (fun _ h9 => h9) rfl dX3_cheapNow_13 ?_
  refine lv_ishl hx hb dX3_cheapNow_16 ?_
  rw [show (((nI 1) <<< ((nI n) &&& 31)) : Int32) = (nI (2 ^ n)) from shl_n n hn6]
  refine nv_icmp_ge (tgt := 72) hx hb dX3_cheapNow_17 (by omega) (by have := two_n hn6; omega) (by decide) (fun c_17 => ?_) (fun c_17 => ?_)
  · skip
    refine lv_iload_n hx hb dX3_cheapNow_72 rfl (lv_at hl 3 rfl) ?_
    refine lv_iconst (v := (-1)) hx hb dX3_cheapNow_73 (by decide) ?_
    refine lv_icmp_eq (tgt := 82) hx hb dX3_cheapNow_74 (by decide) (fun c_74 => ?_) (fun c_74 => ?_)
    · skip
      refine lv_iload_n hx hb dX3_cheapNow_82 rfl (lv_at hl 3 rfl) ?_
      refine lv_goto (tgt := 90) hx hb dX3_cheapNow_83 (by decide) ?_
      subst hAe
      exact wr_i (w1 := fun (_ : Unit) => MW cI cB b st n td nd nh pl bs kd ag bo pa dm dn hh hn pg ag sd ik ks ktd knd knh kbs kag kbo kpa kdm kdn khh khn hf) hx hb hr hlocks hS () hP dX3_cheapNow_90 (by rw [chN_n (by rw [show 2 ^ n = i by omega]; exact o2i_eq c_74 (fun b h => by have := hb64 b h; omega))]; exact c_74)
    · skip
      obtain ⟨q, eq⟩ := o2i_ne c_74
      have hq64 := hb64 q eq
      rw [show o2i (bst n kd ag x i) = nI q from by rw [eq]; rfl] at hl
      refine lv_iload_n hx hb dX3_cheapNow_77 rfl (lv_at hl 2 rfl) ?_
      refine lv_iconst (v := (nI 1)) hx hb dX3_cheapNow_78 (by decide) ?_
      refine lv_icmp_ne (tgt := 86) hx hb dX3_cheapNow_79 (by decide) (fun c_79 => ?_) (fun c_79 => ?_)
      · skip
        refine lv_iload_n hx hb dX3_cheapNow_86 rfl (lv_at hl 3 rfl) ?_
        refine rdS (As := [.int (nI q)]) (rest := []) hx hb hml hown hg (c_X3_size l D cI cB aS q (by first | assumption | omega)) gm_581 sf_X3_size ⟨Nat.le_of_ble_eq_true rfl, Nat.le_of_ble_eq_true rfl⟩ ⟨rfl, rfl⟩ ⟨Nat.zero_le _, Nat.zero_le _⟩ (RP.preS hK (fun k q h => by simp at h)) rfl hl.1 rfl (Nat.le_of_ble_eq_true rfl) dX3_cheapNow_87 ?_
        subst hAe
        exact wr_i (w1 := fun (_ : Unit) => MW cI cB b st n td nd nh pl bs kd ag bo pa dm dn hh hn pg ag sd ik ks ktd knd knh kbs kag kbo kpa kdm kdn khh khn hf) hx hb hr hlocks hS () hP dX3_cheapNow_90 (by rw [chN_s (by rw [show 2 ^ n = i by omega]; exact eq), if_neg c_79])
      · skip
        refine lv_iload_n hx hb dX3_cheapNow_82 rfl (lv_at hl 3 rfl) ?_
        refine lv_goto (tgt := 90) hx hb dX3_cheapNow_83 (by decide) ?_
        subst hAe
        exact wr_i (w1 := fun (_ : Unit) => MW cI cB b st n td nd nh pl bs kd ag bo pa dm dn hh hn pg ag sd ik ks ktd knd knh kbs kag kbo kpa kdm kdn khh khn hf) hx hb hr hlocks hS () hP dX3_cheapNow_90 (by rw [chN_s (by rw [show 2 ^ n = i by omega]; exact eq), if_pos c_79])
  · skip
    refine lv_iload_n hx hb dX3_cheapNow_20 rfl (lv_at hl 3 rfl) ?_
    refine lv_iconst (v := (-1)) hx hb dX3_cheapNow_21 (by decide) ?_
    refine lv_icmp_eq (tgt := 37) hx hb dX3_cheapNow_22 (by decide) (fun c_22 => ?_) (fun c_22 => ?_)
    · skip
      refine lv_iconst (v := (nI 1)) hx hb dX3_cheapNow_37 (by decide) ?_
      refine lv_goto (tgt := 42) hx hb dX3_cheapNow_38 (by decide) ?_
      refine lv_istore (lv' := [(5, .int (nI 1)), (0, .ref (b 0)), (1, .int x), (2, .int w), (3, .int (o2i (bst n kd ag x i))), (4, .int (nI i))]) hx hb dX3_cheapNow_42 hl (by decide) rfl (fun ls hl => ?_)
      refine lv_iload hx hb dX3_cheapNow_44 (lv_at hl 0 rfl) ?_
      refine nv_if_eq (tgt := 64) hx hb dX3_cheapNow_46 (by omega) (by decide) (fun c_46 => ?_) (fun c_46 => ?_)
      · exact absurd c_46 (by decide)
      · skip
        refine lv_aload_n hx hb dX3_cheapNow_49 rfl (lv_at hl 1 rfl) ?_
        refine lv_iload hx hb dX3_cheapNow_50 (lv_at hl 5 rfl) ?_
        refine wrVi (As := [.int (nI i)]) (rest := []) hx hb hml hown hg (c_X3_numbersBy l D cI cB aS _ st n td nd nh pl bs kd ag bo pa dm dn hh hn pg ag sd ik ks ktd knd knh kbs kag kbo kpa kdm kdn khh khn hf i (hD.weaken (fun _ _ _ _ => trivial)) (by first | assumption | omega) (by first | assumption | omega)) gm_584 vf_X3_numbersBy ⟨Nat.le_of_ble_eq_true rfl, Nat.le_of_ble_eq_true rfl⟩ ⟨rfl, rfl⟩ ⟨Nat.zero_le _, Nat.zero_le _⟩ (RP.preV hK hP (q0 := 0) (ci := 3) MW_g0 rfl) rfl hl.1 rfl (Nat.le_of_ble_eq_true rfl) dX3_cheapNow_52 hS (inW_all hD) (fun r_2 u_2 H1 locs hpo_2 hP1 hk1 hS => ?_)
        have hP : va_P D vwCl (MW cI cB b st n td nd nh pl bs kd ag bo pa dm dn hh hn pg ag sd ik ks ktd knd knh kbs kag kbo kpa kdm kdn khh khn hf) H1 := hP1
        have hD : va_D A (MW cI cB b st n td nd nh pl bs kd ag bo pa dm dn hh hn pg ag sd ik ks ktd knd knh kbs kag kbo kpa kdm kdn khh khn hf) := hD.addr (MW_addr.trans MW_addr.symm)
        clear hP1 hk1
        generalize H1 = H at hP hS ⊢
        have hpo_2 : r_2 = (nbR n kd ag i) := hpo_2
        subst hpo_2
        refine lv_iload_n hx hb dX3_cheapNow_55 rfl (lv_at hl 2 rfl) ?_
        refine lv_icmp_gt (tgt := 64) hx hb dX3_cheapNow_56 (by decide) (fun c_56 => ?_) (fun c_56 => ?_)
        · skip
          refine lv_iload_n hx hb dX3_cheapNow_64 rfl (lv_at hl 4 rfl) ?_
          refine lv_istore_n (lv' := [(3, .int (o2i (bst n kd ag x i))), (5, .int (nI 1)), (0, .ref (b 0)), (1, .int x), (2, .int w), (4, .int (nI i))]) hx hb dX3_cheapNow_65 rfl hl (by decide) rfl (fun ls hl => ?_)
          refine lv_iinc (v := (nI (i + 1))) (lv' := [(4, .int (nI (i + 1))), (3, .int (o2i (bst n kd ag x i))), (5, .int (nI 1)), (0, .ref (b 0)), (1, .int x), (2, .int w)]) hx hb dX3_cheapNow_66 hl (k := 5) rfl (nI_i1 _) (by decide) rfl (fun ls hl => ?_)
          refine lv_goto (tgt := 9) hx hb dX3_cheapNow_69 (by decide) ?_
          exact ih_9 () _ _ _ (by omega) (trivial) (by show lv_has ls 6 [(0, .ref (b 0)), (1, .int x), (2, .int w), (3, .int (o2i (bst n kd ag x (i + 1)))), (4, .int (nI (i + 1)))]; rw [show (o2i (bst n kd ag x (i + 1))) = o2i (bst n kd ag x i) from (congrArg o2i (bst_f (fun h => (nbR_ok qx).mpr h.2 c_56)))]; exact lv_sub hl [3, 4, 5, 1, 0] rfl) hP (hD.addr (MW_addr.trans MW_addr.symm)) hS
        · skip
          refine lv_iload hx hb dX3_cheapNow_59 (lv_at hl 5 rfl) ?_
          refine lv_goto (tgt := 65) hx hb dX3_cheapNow_61 (by decide) ?_
          refine lv_istore_n (lv' := [(3, .int (nI i)), (5, .int (nI 1)), (0, .ref (b 0)), (1, .int x), (2, .int w), (4, .int (nI i))]) hx hb dX3_cheapNow_65 rfl hl (by decide) rfl (fun ls hl => ?_)
          refine lv_iinc (v := (nI (i + 1))) (lv' := [(4, .int (nI (i + 1))), (3, .int (nI i)), (5, .int (nI 1)), (0, .ref (b 0)), (1, .int x), (2, .int w)]) hx hb dX3_cheapNow_66 hl (k := 5) rfl (nI_i1 _) (by decide) rfl (fun ls hl => ?_)
          refine lv_goto (tgt := 9) hx hb dX3_cheapNow_69 (by decide) ?_
          exact ih_9 () _ _ _ (by omega) (trivial) (by show lv_has ls 6 [(0, .ref (b 0)), (1, .int x), (2, .int w), (3, .int (o2i (bst n kd ag x (i + 1)))), (4, .int (nI (i + 1)))]; rw [show ((o2i (bst n kd ag x (i + 1)))) = (nI i) from (congrArg o2i (bst_t (fw_n (o2i_eq c_22 (fun b h => by have := hb64 b h; omega))) ((nbR_ok qx).mp c_56).1 ((nbR_ok qx).mp c_56).2))]; exact lv_sub hl [3, 4, 5, 1, 0] rfl) hP (hD.addr (MW_addr.trans MW_addr.symm)) hS
    · skip
      obtain ⟨q, eq⟩ := o2i_ne c_22
      have hq64 := hb64 q eq
      rw [show o2i (bst n kd ag x i) = nI q from by rw [eq]; rfl] at hl
      refine lv_iload hx hb dX3_cheapNow_25 (lv_at hl 4 rfl) ?_
      refine rdS (As := [.int (nI i)]) (rest := []) hx hb hml hown hg (c_X3_size l D cI cB aS i (by first | assumption | omega)) gm_581 sf_X3_size ⟨Nat.le_of_ble_eq_true rfl, Nat.le_of_ble_eq_true rfl⟩ ⟨rfl, rfl⟩ ⟨Nat.zero_le _, Nat.zero_le _⟩ (RP.preS hK (fun k q h => by simp at h)) rfl hl.1 rfl (Nat.le_of_ble_eq_true rfl) dX3_cheapNow_27 ?_
      refine lv_iload_n hx hb dX3_cheapNow_30 rfl (lv_at hl 3 rfl) ?_
      refine rdS (As := [.int (nI q)]) (rest := [.int (nI (popF i))]) hx hb hml hown hg (c_X3_size l D cI cB aS q (by first | assumption | omega)) gm_581 sf_X3_size ⟨Nat.le_of_ble_eq_true rfl, Nat.le_of_ble_eq_true rfl⟩ ⟨rfl, rfl⟩ ⟨Nat.zero_le _, Nat.zero_le _⟩ (RP.preS hK (fun k q h => by simp at h)) rfl hl.1 rfl (Nat.le_of_ble_eq_true rfl) dX3_cheapNow_31 ?_
      refine nv_icmp_ge (tgt := 41) hx hb dX3_cheapNow_34 (by have := cn_le (fun k => i.testBit k) 6; unfold popF; omega) (by have := cn_le (fun k => q.testBit k) 6; unfold popF; omega) (by decide) (fun c_34 => ?_) (fun c_34 => ?_)
      · skip
        refine lv_iconst (v := (nI 0)) hx hb dX3_cheapNow_41 (by decide) ?_
        refine lv_istore (lv' := [(5, .int (nI 0)), (0, .ref (b 0)), (1, .int x), (2, .int w), (3, .int (nI q)), (4, .int (nI i))]) hx hb dX3_cheapNow_42 hl (by decide) rfl (fun ls hl => ?_)
        refine lv_iload hx hb dX3_cheapNow_44 (lv_at hl 0 rfl) ?_
        refine nv_if_eq (tgt := 64) hx hb dX3_cheapNow_46 (by omega) (by decide) (fun c_46 => ?_) (fun c_46 => ?_)
        · skip
          refine lv_iload_n hx hb dX3_cheapNow_64 rfl (lv_at hl 4 rfl) ?_
          refine lv_istore_n (lv' := [(3, .int (nI q)), (5, .int (nI 0)), (0, .ref (b 0)), (1, .int x), (2, .int w), (4, .int (nI i))]) hx hb dX3_cheapNow_65 rfl hl (by decide) rfl (fun ls hl => ?_)
          refine lv_iinc (v := (nI (i + 1))) (lv' := [(4, .int (nI (i + 1))), (3, .int (nI q)), (5, .int (nI 0)), (0, .ref (b 0)), (1, .int x), (2, .int w)]) hx hb dX3_cheapNow_66 hl (k := 5) rfl (nI_i1 _) (by decide) rfl (fun ls hl => ?_)
          refine lv_goto (tgt := 9) hx hb dX3_cheapNow_69 (by decide) ?_
          exact ih_9 () _ _ _ (by omega) (trivial) (by show lv_has ls 6 [(0, .ref (b 0)), (1, .int x), (2, .int w), (3, .int (o2i (bst n kd ag x (i + 1)))), (4, .int (nI (i + 1)))]; rw [show ((o2i (bst n kd ag x (i + 1)))) = (nI q) from (by rw [bst_f (fun h => absurd (fw_s eq h.1) (by omega)), eq]; rfl)]; exact lv_sub hl [3, 4, 5, 1, 0] rfl) hP (hD.addr (MW_addr.trans MW_addr.symm)) hS
        · exact absurd rfl c_46
      · skip
        refine lv_iconst (v := (nI 1)) hx hb dX3_cheapNow_37 (by decide) ?_
        refine lv_goto (tgt := 42) hx hb dX3_cheapNow_38 (by decide) ?_
        refine lv_istore (lv' := [(5, .int (nI 1)), (0, .ref (b 0)), (1, .int x), (2, .int w), (3, .int (nI q)), (4, .int (nI i))]) hx hb dX3_cheapNow_42 hl (by decide) rfl (fun ls hl => ?_)
        refine lv_iload hx hb dX3_cheapNow_44 (lv_at hl 0 rfl) ?_
        refine nv_if_eq (tgt := 64) hx hb dX3_cheapNow_46 (by omega) (by decide) (fun c_46 => ?_) (fun c_46 => ?_)
        · exact absurd c_46 (by decide)
        · skip
          refine lv_aload_n hx hb dX3_cheapNow_49 rfl (lv_at hl 1 rfl) ?_
          refine lv_iload hx hb dX3_cheapNow_50 (lv_at hl 5 rfl) ?_
          refine wrVi (As := [.int (nI i)]) (rest := []) hx hb hml hown hg (c_X3_numbersBy l D cI cB aS _ st n td nd nh pl bs kd ag bo pa dm dn hh hn pg ag sd ik ks ktd knd knh kbs kag kbo kpa kdm kdn khh khn hf i (hD.weaken (fun _ _ _ _ => trivial)) (by first | assumption | omega) (by first | assumption | omega)) gm_584 vf_X3_numbersBy ⟨Nat.le_of_ble_eq_true rfl, Nat.le_of_ble_eq_true rfl⟩ ⟨rfl, rfl⟩ ⟨Nat.zero_le _, Nat.zero_le _⟩ (RP.preV hK hP (q0 := 0) (ci := 3) MW_g0 rfl) rfl hl.1 rfl (Nat.le_of_ble_eq_true rfl) dX3_cheapNow_52 hS (inW_all hD) (fun r_3 u_3 H1 locs hpo_3 hP1 hk1 hS => ?_)
          have hP : va_P D vwCl (MW cI cB b st n td nd nh pl bs kd ag bo pa dm dn hh hn pg ag sd ik ks ktd knd knh kbs kag kbo kpa kdm kdn khh khn hf) H1 := hP1
          have hD : va_D A (MW cI cB b st n td nd nh pl bs kd ag bo pa dm dn hh hn pg ag sd ik ks ktd knd knh kbs kag kbo kpa kdm kdn khh khn hf) := hD.addr (MW_addr.trans MW_addr.symm)
          clear hP1 hk1
          generalize H1 = H at hP hS ⊢
          have hpo_3 : r_3 = (nbR n kd ag i) := hpo_3
          subst hpo_3
          refine lv_iload_n hx hb dX3_cheapNow_55 rfl (lv_at hl 2 rfl) ?_
          refine lv_icmp_gt (tgt := 64) hx hb dX3_cheapNow_56 (by decide) (fun c_56 => ?_) (fun c_56 => ?_)
          · skip
            refine lv_iload_n hx hb dX3_cheapNow_64 rfl (lv_at hl 4 rfl) ?_
            refine lv_istore_n (lv' := [(3, .int (nI q)), (5, .int (nI 1)), (0, .ref (b 0)), (1, .int x), (2, .int w), (4, .int (nI i))]) hx hb dX3_cheapNow_65 rfl hl (by decide) rfl (fun ls hl => ?_)
            refine lv_iinc (v := (nI (i + 1))) (lv' := [(4, .int (nI (i + 1))), (3, .int (nI q)), (5, .int (nI 1)), (0, .ref (b 0)), (1, .int x), (2, .int w)]) hx hb dX3_cheapNow_66 hl (k := 5) rfl (nI_i1 _) (by decide) rfl (fun ls hl => ?_)
            refine lv_goto (tgt := 9) hx hb dX3_cheapNow_69 (by decide) ?_
            exact ih_9 () _ _ _ (by omega) (trivial) (by show lv_has ls 6 [(0, .ref (b 0)), (1, .int x), (2, .int w), (3, .int (o2i (bst n kd ag x (i + 1)))), (4, .int (nI (i + 1)))]; rw [show ((o2i (bst n kd ag x (i + 1)))) = (nI q) from (by rw [bst_f (fun h => (nbR_ok qx).mpr h.2 c_56), eq]; rfl)]; exact lv_sub hl [3, 4, 5, 1, 0] rfl) hP (hD.addr (MW_addr.trans MW_addr.symm)) hS
          · skip
            refine lv_iload hx hb dX3_cheapNow_59 (lv_at hl 5 rfl) ?_
            refine lv_goto (tgt := 65) hx hb dX3_cheapNow_61 (by decide) ?_
            refine lv_istore_n (lv' := [(3, .int (nI i)), (5, .int (nI 1)), (0, .ref (b 0)), (1, .int x), (2, .int w), (4, .int (nI i))]) hx hb dX3_cheapNow_65 rfl hl (by decide) rfl (fun ls hl => ?_)
            refine lv_iinc (v := (nI (i + 1))) (lv' := [(4, .int (nI (i + 1))), (3, .int (nI i)), (5, .int (nI 1)), (0, .ref (b 0)), (1, .int x), (2, .int w)]) hx hb dX3_cheapNow_66 hl (k := 5) rfl (nI_i1 _) (by decide) rfl (fun ls hl => ?_)
            refine lv_goto (tgt := 9) hx hb dX3_cheapNow_69 (by decide) ?_
            exact ih_9 () _ _ _ (by omega) (trivial) (by show lv_has ls 6 [(0, .ref (b 0)), (1, .int x), (2, .int w), (3, .int (o2i (bst n kd ag x (i + 1)))), (4, .int (nI (i + 1)))]; rw [show ((o2i (bst n kd ag x (i + 1)))) = (nI i) from (congrArg o2i (bst_t (fw_t eq c_34) ((nbR_ok qx).mp c_56).1 ((nbR_ok qx).mp c_56).2))]; exact lv_sub hl [3, 4, 5, 1, 0] rfl) hP (hD.addr (MW_addr.trans MW_addr.symm)) hS
abbrev rm_X3_cheap : Room := { frames := 5, cells := 0, slots := 0, locals := 113 }
theorem vf_X3_cheapNow : vfacts RX3 yX3_cheapNow cX3_cheapNow 6 (some .int) 2 := ⟨⟨rfl, by decide +kernel, by decide +kernel, by decide +kernel⟩, gm_576, gm_723, gm_5, gm_577⟩
set_option maxRecDepth 100000 in
set_option maxHeartbeats 4000000 in
theorem c_X3_cheap (l : Launch) (D : va_G) (cI cB : ClassId) (aS : Nat) (b : Nat → Nat) (st n td nd nh pl : Nat) (bs : Int32) (kd ag bo pa dm dn hh hn pg sv : Nat → Int32) (sd : Int64) (ik : Int32) (ks ktd knd knh : Nat) (kbs : Int32) (kag kbo kpa kdm kdn khh khn : Nat → Int32) (hf : Int64) (x w : Int32) (hD0 : va_D (fun _ => True) (MW cI cB b st n td nd nh pl bs kd ag bo pa dm dn hh hn pg sv sd ik ks ktd knd knh kbs kag kbo kpa kdm kdn khh khn hf)) (hn6 : n ≤ 6) : Met l yX3_cheap (mw yX3_cheap cX3_cheap 3 (some .int)) rm_X3_cheap (RP D cI cB aS (MW cI cB b st n td nd nh pl bs kd ag bo pa dm dn hh hn pg sv sd ik ks ktd knd knh kbs kag kbo kpa kdm kdn khh khn hf) [.ref (b 0), .int x, .int w]) (wq mkI (MW cI cB b st n td nd nh pl bs kd ag bo pa dm dn hh hn pg sv sd ik ks ktd knd knh kbs kag kbo kpa kdm kdn khh khn hf) (fun (u : (Nat → Int32)) => MW cI cB b st n td nd nh pl bs kd ag bo pa dm dn hh hn pg u sd ik ks ktd knd knh kbs kag kbo kpa kdm kdn khh khn hf) D (fun (r : Int32) (_ : Nat → Int32) => r = chF n kd ag x w)) 0 0 (inW (MW cI cB b st n td nd nh pl bs kd ag bo pa dm dn hh hn pg sv sd ik ks ktd knd knh kbs kag kbo kpa kdm kdn khh khn hf)) := by
  refine met_of (by decide) (Nat.le_of_ble_eq_true rfl) ?_
  intro p e s m below meth c ls hx hb hr hml hown hg hlocks hin hK hP hl
  have hown : s.vm.findClass RX3 = some m.cls := hown
  have hl : lv_has ls 3 [(0, .ref (b 0)), (1, .int x), (2, .int w)] := hl
  have hD := hD0.here
  have hS0 : va_S (inW (MW cI cB b st n td nd nh pl bs kd ag bo pa dm dn hh hn pg sv sd ik ks ktd knd knh kbs kag kbo kpa kdm kdn khh khn hf)) s.heap s.heap [] := va_S.rf
  obtain ⟨H, hH⟩ : ∃ H, H = s.heap := ⟨_, rfl⟩
  have hS : va_S (inW (MW cI cB b st n td nd nh pl bs kd ag bo pa dm dn hh hn pg sv sd ik ks ktd knd knh kbs kag kbo kpa kdm kdn khh khn hf)) s.heap H [] := by rw [hH]; exact hS0
  clear hS0
  rw [← hH] at hP ⊢
  generalize hAe : inW (MW cI cB b st n td nd nh pl bs kd ag bo pa dm dn hh hn pg sv sd ik ks ktd knd knh kbs kag kbo kpa kdm kdn khh khn hf) = A at hD hS ⊢
  refine lv_iload_n hx hb dX3_cheap_0 rfl (lv_at hl 1 rfl) ?_
  refine lv_iconst (v := (nI 0)) hx hb dX3_cheap_1 (by decide) ?_
  refine lv_sipush (v := (nI 400)) hx hb dX3_cheap_2 (by decide) ?_
  refine rdS (As := [.int x, .int (nI 0), .int (nI 400)]) (rest := []) hx hb hml hown hg (c_X3_within l D cI cB aS x (nI 0) (nI 400)) gm_469 sf_X3_within ⟨Nat.le_of_ble_eq_true rfl, Nat.le_of_ble_eq_true rfl⟩ ⟨rfl, rfl⟩ ⟨Nat.zero_le _, Nat.zero_le _⟩ (RP.preS hK (fun k q h => by simp at h)) rfl hl.1 rfl (Nat.le_of_ble_eq_true rfl) dX3_cheap_5 ?_
  refine bv_if_eq (tgt := 20) hx hb dX3_cheap_8 (by decide) (fun c_8 => ?_) (fun c_8 => ?_)
  · skip
    refine lv_bipush (v := (-102)) hx hb dX3_cheap_20 (by decide) ?_
    subst hAe
    exact wr_i (w1 := fun (u : (Nat → Int32)) => MW cI cB b st n td nd nh pl bs kd ag bo pa dm dn hh hn pg u sd ik ks ktd knd knh kbs kag kbo kpa kdm kdn khh khn hf) hx hb hr hlocks hS sv hP dX3_cheap_22 ((if_neg (fun q => c_8 q.1)).symm)
  · skip
    refine lv_iload_n hx hb dX3_cheap_11 rfl (lv_at hl 2 rfl) ?_
    refine lv_iconst (v := (nI 0)) hx hb dX3_cheap_12 (by decide) ?_
    refine lv_iconst (v := (nI 1)) hx hb dX3_cheap_13 (by decide) ?_
    refine rdS (As := [.int w, .int (nI 0), .int (nI 1)]) (rest := []) hx hb hml hown hg (c_X3_within l D cI cB aS w (nI 0) (nI 1)) gm_469 sf_X3_within ⟨Nat.le_of_ble_eq_true rfl, Nat.le_of_ble_eq_true rfl⟩ ⟨rfl, rfl⟩ ⟨Nat.zero_le _, Nat.zero_le _⟩ (RP.preS hK (fun k q h => by simp at h)) rfl hl.1 rfl (Nat.le_of_ble_eq_true rfl) dX3_cheap_14 ?_
    refine bv_if_ne (tgt := 23) hx hb dX3_cheap_17 (by decide) (fun c_17 => ?_) (fun c_17 => ?_)
    · skip
      refine lv_aload_n hx hb dX3_cheap_23 rfl (lv_at hl 0 rfl) ?_
      refine va_get (D := D) (ci := 3) (v := .int (nI n)) (C := RX3) (T := TX3) (N := 32) hx hb hg us_X3 hown hK.1 hP 0 MW_g0 rfl 1 (by decide) (hg _ gm_402) (fun _ h9 => h9) rfl dX3_cheap_24 ?_
      refine nv_if_ne (tgt := 35) hx hb dX3_cheap_27 (by omega) (by decide) (fun c_27 => ?_) (fun c_27 => ?_)
      · skip
        refine lv_aload_n hx hb dX3_cheap_35 rfl (lv_at hl 0 rfl) ?_
        refine lv_iload_n hx hb dX3_cheap_36 rfl (lv_at hl 1 rfl) ?_
        refine lv_iload_n hx hb dX3_cheap_37 rfl (lv_at hl 2 rfl) ?_
        refine wrVi (As := [.int x, .int w]) (rest := []) hx hb hml hown hg (c_X3_cheapNow l D cI cB aS _ st n td nd nh pl bs kd ag bo pa dm dn hh hn pg sv sd ik ks ktd knd knh kbs kag kbo kpa kdm kdn khh khn hf x w (hD.weaken (fun _ _ _ _ => trivial)) c_8.2 (by first | assumption | omega)) gm_575 vf_X3_cheapNow ⟨Nat.le_of_ble_eq_true rfl, Nat.le_of_ble_eq_true rfl⟩ ⟨rfl, rfl⟩ ⟨Nat.zero_le _, Nat.zero_le _⟩ (RP.preV hK hP (q0 := 0) (ci := 3) MW_g0 rfl) rfl hl.1 rfl (Nat.le_of_ble_eq_true rfl) dX3_cheap_38 hS (inW_all hD) (fun r_1 u_1 H1 locs hpo_1 hP1 hk1 hS => ?_)
        have hP : va_P D vwCl (MW cI cB b st n td nd nh pl bs kd ag bo pa dm dn hh hn pg ag sd ik ks ktd knd knh kbs kag kbo kpa kdm kdn khh khn hf) H1 := hP1
        have hD : va_D A (MW cI cB b st n td nd nh pl bs kd ag bo pa dm dn hh hn pg ag sd ik ks ktd knd knh kbs kag kbo kpa kdm kdn khh khn hf) := hD.addr (MW_addr.trans MW_addr.symm)
        clear hP1 hk1
        generalize H1 = H at hP hS ⊢
        have hpo_1 : r_1 = (chN n kd ag x w) := hpo_1
        subst hpo_1
        subst hAe
        exact wr_i (w1 := fun (u : (Nat → Int32)) => MW cI cB b st n td nd nh pl bs kd ag bo pa dm dn hh hn pg u sd ik ks ktd knd knh kbs kag kbo kpa kdm kdn khh khn hf) hx hb hr hlocks hS ag hP dX3_cheap_41 (by unfold chF; rw [if_pos ⟨c_8, c_17⟩, if_neg c_27])
      · skip
        refine lv_bipush (v := (-103)) hx hb dX3_cheap_30 (by decide) ?_
        refine lv_goto (tgt := 41) hx hb dX3_cheap_32 (by decide) ?_
        subst hAe
        exact wr_i (w1 := fun (u : (Nat → Int32)) => MW cI cB b st n td nd nh pl bs kd ag bo pa dm dn hh hn pg u sd ik ks ktd knd knh kbs kag kbo kpa kdm kdn khh khn hf) hx hb hr hlocks hS sv hP dX3_cheap_41 (by unfold chF; rw [if_pos ⟨c_8, c_17⟩, if_pos c_27])
    · skip
      refine lv_bipush (v := (-102)) hx hb dX3_cheap_20 (by decide) ?_
      subst hAe
      exact wr_i (w1 := fun (u : (Nat → Int32)) => MW cI cB b st n td nd nh pl bs kd ag bo pa dm dn hh hn pg u sd ik ks ktd knd knh kbs kag kbo kpa kdm kdn khh khn hf) hx hb hr hlocks hS sv hP dX3_cheap_22 ((if_neg (fun q => c_17 q.2)).symm)
