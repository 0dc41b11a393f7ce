abbrev rm_X3_blank : Room := { frames := 0, cells := 0, slots := 0, locals := 0 }
theorem MW_set_1 {cI cB : ClassId} {b : Nat → Nat} {st n td nd nh pl : Nat} {bs : Int32} {kd ag bo pa dm dn hh hn pg sv : Nat → Int32} {sd : Int64} {ik : Int32} {ks ktd knd knh : Nat} {kbs : Int32} {kag kbo kpa kdm kdn khh khn : Nat → Int32} {hf : Int64} {z0 : Nat} : List.set (MW cI cB b st n td nd nh pl bs kd ag bo pa dm dn hh hn pg sv sd ik ks ktd knd knh kbs kag kbo kpa kdm kdn khh khn hf) 0 (b 0, .inr (3, List.set [.int (nI st), .int (nI n), .ref (b 1), .ref (b 2), .ref (b 3), .ref (b 4), .int (nI td), .int bs, .int (nI nd), .ref (b 5), .ref (b 6), .int (nI nh), .ref (b 7), .ref (b 8), .int (nI pl), .ref (b 9), .ref (b 10), .long sd, .int ik, .int (nI ks), .int (nI ktd), .int kbs, .int (nI knd), .int (nI knh), .ref (b 11), .ref (b 12), .ref (b 13), .ref (b 14), .ref (b 15), .ref (b 16), .ref (b 17), .long hf] 14 (.int (nI z0)))) = MW cI cB b st n td nd nh z0 bs kd ag bo pa dm dn hh hn pg sv sd ik ks ktd knd knh kbs kag kbo kpa kdm kdn khh khn hf := rfl
set_option maxRecDepth 100000 in
set_option maxHeartbeats 4000000 in
theorem c_X3_blank (l : Launch) (D : va_G) (cI cB : ClassId) (aS : Nat) (b : Nat → Nat) (st n td nd nh pl : Nat) (bs : Int32) (kd ag bo pa dm dn hh hn pg sv : Nat → Int32) (sd : Int64) (ik : Int32) (ks ktd knd knh : Nat) (kbs : Int32) (kag kbo kpa kdm kdn khh khn : Nat → Int32) (hf : Int64)  (hD0 : va_D (fun _ => True) (MW cI cB b st n td nd nh pl bs kd ag bo pa dm dn hh hn pg sv sd ik ks ktd knd knh kbs kag kbo kpa kdm kdn khh khn hf)) : Met l yX3_blank (mw yX3_blank cX3_blank 2 (some .int)) rm_X3_blank (RP D cI cB aS (MW cI cB b st n td nd nh pl bs kd ag bo pa dm dn hh hn pg sv sd ik ks ktd knd knh kbs kag kbo kpa kdm kdn khh khn hf) [.ref (b 0)]) (wq mkI (MW cI cB b st n td nd nh pl bs kd ag bo pa dm dn hh hn pg sv sd ik ks ktd knd knh kbs kag kbo kpa kdm kdn khh khn hf) (fun (_ : Unit) => MW cI cB b st n td nd nh 0 bs kd ag bo pa dm dn hh hn pg sv sd ik ks ktd knd knh kbs kag kbo kpa kdm kdn khh khn hf) D (fun (r : Int32) (_ : Unit) => r = (nI pl))) 0 0 (inW (MW cI cB b st n td nd nh pl bs kd ag bo pa dm dn hh hn pg sv sd ik ks ktd knd knh kbs kag kbo kpa kdm kdn khh khn hf)) := by
  refine met_of (by decide) (Nat.le_of_ble_eq_true rfl) ?_
  intro p e s m below meth c ls hx hb hr hml hown hg hlocks hin hK hP hl
  have hown : s.vm.findClass RX3 = some m.cls := hown
  have hl : lv_has ls 2 [(0, .ref (b 0))] := hl
  have hD := hD0.here
  have hS0 : va_S (inW (MW cI cB b st n td nd nh pl bs kd ag bo pa dm dn hh hn pg sv sd ik ks ktd knd knh kbs kag kbo kpa kdm kdn khh khn hf)) s.heap s.heap [] := va_S.rf
  obtain ⟨H, hH⟩ : ∃ H, H = s.heap := ⟨_, rfl⟩
  have hS : va_S (inW (MW cI cB b st n td nd nh pl bs kd ag bo pa dm dn hh hn pg sv sd ik ks ktd knd knh kbs kag kbo kpa kdm kdn khh khn hf)) s.heap H [] := by rw [hH]; exact hS0
  clear hS0
  rw [← hH] at hP ⊢
  generalize hAe : inW (MW cI cB b st n td nd nh pl bs kd ag bo pa dm dn hh hn pg sv sd ik ks ktd knd knh kbs kag kbo kpa kdm kdn khh khn hf) = A at hD hS ⊢
  refine lv_aload_n hx hb dX3_blank_0 rfl (lv_at hl 0 rfl) ?_
  refine va_get (D := D) (ci := 3) (v := .int (nI pl)) (C := RX3) (T := TX3) (N := 32) hx hb hg us_X3 hown hK.1 hP 0 MW_g0 rfl 14 (by decide) (hg _ gm_415) (fun _ h9 => h9) rfl dX3_blank_1 ?_
  refine lv_istore_n (lv' := [(1, .int (nI pl)), (0, .ref (b 0))]) hx hb dX3_blank_4 rfl hl (by decide) rfl (fun ls hl => ?_)
  refine lv_aload_n hx hb dX3_blank_5 rfl (lv_at hl 1 rfl) ?_
  refine lv_iconst (v := (nI 0)) hx hb dX3_blank_6 (by decide) ?_
  refine va_put (D := D) (ci := 3) (v := .int (nI 0)) (ty := .int) (C := RX3) (T := TX3) (N := 32) hx hb hg us_X3 tyX3 tyX3_ok nmX3 hown hK.1 hP hD hS 0 MW_g0 rfl 14 (by decide) (hg _ gm_415) (fun _ h9 => h9) rfl (by decide +kernel) rfl rfl (Nat.le_of_ble_eq_true rfl) dX3_blank_7 (fun H locs hP hD hS => ?_)
  have hP : va_P D vwCl (MW cI cB b st n td nd nh 0 bs kd ag bo pa dm dn hh hn pg sv sd ik ks ktd knd knh kbs kag kbo kpa kdm kdn khh khn hf) H := P_eq hP MW_set_1
  have hD : va_D A (MW cI cB b st n td nd nh 0 bs kd ag bo pa dm dn hh hn pg sv sd ik ks ktd knd knh kbs kag kbo kpa kdm kdn khh khn hf) := D_eq hD MW_set_1
  refine lv_iload_n hx hb dX3_blank_10 rfl (lv_at hl 0 rfl) ?_
  subst hAe
  exact wr_i (w1 := fun (_ : Unit) => MW cI cB b st n td nd nh 0 bs kd ag bo pa dm dn hh hn pg sv sd ik ks ktd knd knh kbs kag kbo kpa kdm kdn khh khn hf) hx hb hr hlocks hS () hP dX3_blank_11 rfl
abbrev rm_X3_forget : Room := { frames := 0, cells := 0, slots := 0, locals := 0 }
theorem MW_set_2 {cI cB : ClassId} {b : Nat → Nat} {st n td nd nh pl : Nat} {bs : Int32} {kd ag bo pa dm dn hh hn pg sv : Nat → Int32} {sd : Int64} {ik : Int32} {ks ktd knd knh : Nat} {kbs : Int32} {kag kbo kpa kdm kdn khh khn : Nat → Int32} {hf : Int64} {z0 : Nat} : List.set (MW cI cB b st n td nd nh pl bs kd ag bo pa dm dn hh hn pg sv sd ik ks ktd knd knh kbs kag kbo kpa kdm kdn khh khn hf) 0 (b 0, .inr (3, List.set [.int (nI st), .int (nI n), .ref (b 1), .ref (b 2), .ref (b 3), .ref (b 4), .int (nI td), .int bs, .int (nI nd), .ref (b 5), .ref (b 6), .int (nI nh), .ref (b 7), .ref (b 8), .int (nI pl), .ref (b 9), .ref (b 10), .long sd, .int ik, .int (nI ks), .int (nI ktd), .int kbs, .int (nI knd), .int (nI knh), .ref (b 11), .ref (b 12), .ref (b 13), .ref (b 14), .ref (b 15), .ref (b 16), .ref (b 17), .long hf] 11 (.int (nI z0)))) = MW cI cB b st n td nd z0 pl bs kd ag bo pa dm dn hh hn pg sv sd ik ks ktd knd knh kbs kag kbo kpa kdm kdn khh khn hf := rfl
set_option maxRecDepth 100000 in
set_option maxHeartbeats 4000000 in
theorem c_X3_forget (l : Launch) (D : va_G) (cI cB : ClassId) (aS : Nat) (b : Nat → Nat) (st n td nd nh pl : Nat) (bs : Int32) (kd ag bo pa dm dn hh hn pg sv : Nat → Int32) (sd : Int64) (ik : Int32) (ks ktd knd knh : Nat) (kbs : Int32) (kag kbo kpa kdm kdn khh khn : Nat → Int32) (hf : Int64)  (hD0 : va_D (fun _ => True) (MW cI cB b st n td nd nh pl bs kd ag bo pa dm dn hh hn pg sv sd ik ks ktd knd knh kbs kag kbo kpa kdm kdn khh khn hf)) : Met l yX3_forget (mw yX3_forget cX3_forget 2 (some .int)) rm_X3_forget (RP D cI cB aS (MW cI cB b st n td nd nh pl bs kd ag bo pa dm dn hh hn pg sv sd ik ks ktd knd knh kbs kag kbo kpa kdm kdn khh khn hf) [.ref (b 0)]) (wq mkI (MW cI cB b st n td nd nh pl bs kd ag bo pa dm dn hh hn pg sv sd ik ks ktd knd knh kbs kag kbo kpa kdm kdn khh khn hf) (fun (_ : Unit) => MW cI cB b st n td nd 0 pl bs kd ag bo pa dm dn hh hn pg sv sd ik ks ktd knd knh kbs kag kbo kpa kdm kdn khh khn hf) D (fun (r : Int32) (_ : Unit) => r = (nI nh))) 0 0 (inW (MW cI cB b st n td nd nh pl bs kd ag bo pa dm dn hh hn pg sv sd ik ks ktd knd knh kbs kag kbo kpa kdm kdn khh khn hf)) := by
  refine met_of (by decide) (Nat.le_of_ble_eq_true rfl) ?_
  intro p e s m below meth c ls hx hb hr hml hown hg hlocks hin hK hP hl
  have hown : s.vm.findClass RX3 = some m.cls := hown
  have hl : lv_has ls 2 [(0, .ref (b 0))] := hl
  have hD := hD0.here
  have hS0 : va_S (inW (MW cI cB b st n td nd nh pl bs kd ag bo pa dm dn hh hn pg sv sd ik ks ktd knd knh kbs kag kbo kpa kdm kdn khh khn hf)) s.heap s.heap [] := va_S.rf
  obtain ⟨H, hH⟩ : ∃ H, H = s.heap := ⟨_, rfl⟩
  have hS : va_S (inW (MW cI cB b st n td nd nh pl bs kd ag bo pa dm dn hh hn pg sv sd ik ks ktd knd knh kbs kag kbo kpa kdm kdn khh khn hf)) s.heap H [] := by rw [hH]; exact hS0
  clear hS0
  rw [← hH] at hP ⊢
  generalize hAe : inW (MW cI cB b st n td nd nh pl bs kd ag bo pa dm dn hh hn pg sv sd ik ks ktd knd knh kbs kag kbo kpa kdm kdn khh khn hf) = A at hD hS ⊢
  refine lv_aload_n hx hb dX3_forget_0 rfl (lv_at hl 0 rfl) ?_
  refine va_get (D := D) (ci := 3) (v := .int (nI nh)) (C := RX3) (T := TX3) (N := 32) hx hb hg us_X3 hown hK.1 hP 0 MW_g0 rfl 11 (by decide) (hg _ gm_412) (fun _ h9 => h9) rfl dX3_forget_1 ?_
  refine lv_istore_n (lv' := [(1, .int (nI nh)), (0, .ref (b 0))]) hx hb dX3_forget_4 rfl hl (by decide) rfl (fun ls hl => ?_)
  refine lv_aload_n hx hb dX3_forget_5 rfl (lv_at hl 1 rfl) ?_
  refine lv_iconst (v := (nI 0)) hx hb dX3_forget_6 (by decide) ?_
  refine va_put (D := D) (ci := 3) (v := .int (nI 0)) (ty := .int) (C := RX3) (T := TX3) (N := 32) hx hb hg us_X3 tyX3 tyX3_ok nmX3 hown hK.1 hP hD hS 0 MW_g0 rfl 11 (by decide) (hg _ gm_412) (fun _ h9 => h9) rfl (by decide +kernel) rfl rfl (Nat.le_of_ble_eq_true rfl) dX3_forget_7 (fun H locs hP hD hS => ?_)
  have hP : va_P D vwCl (MW cI cB b st n td nd 0 pl bs kd ag bo pa dm dn hh hn pg sv sd ik ks ktd knd knh kbs kag kbo kpa kdm kdn khh khn hf) H := P_eq hP MW_set_2
  have hD : va_D A (MW cI cB b st n td nd 0 pl bs kd ag bo pa dm dn hh hn pg sv sd ik ks ktd knd knh kbs kag kbo kpa kdm kdn khh khn hf) := D_eq hD MW_set_2
  refine lv_iload_n hx hb dX3_forget_10 rfl (lv_at hl 0 rfl) ?_
  subst hAe
  exact wr_i (w1 := fun (_ : Unit) => MW cI cB b st n td nd 0 pl bs kd ag bo pa dm dn hh hn pg sv sd ik ks ktd knd knh kbs kag kbo kpa kdm kdn khh khn hf) hx hb hr hlocks hS () hP dX3_forget_11 rfl
abbrev rm_X3_pay : Room := { frames := 0, cells := 0, slots := 0, locals := 0 }
theorem MW_set_3 {cI cB : ClassId} {b : Nat → Nat} {st n td nd nh pl : Nat} {bs : Int32} {kd ag bo pa dm dn hh hn pg sv : Nat → Int32} {sd : Int64} {ik : Int32} {ks ktd knd knh : Nat} {kbs : Int32} {kag kbo kpa kdm kdn khh khn : Nat → Int32} {hf : Int64} {z0 : Nat} : List.set (MW cI cB b st n td nd nh pl bs kd ag bo pa dm dn hh hn pg sv sd ik ks ktd knd knh kbs kag kbo kpa kdm kdn khh khn hf) 0 (b 0, .inr (3, List.set [.int (nI st), .int (nI n), .ref (b 1), .ref (b 2), .ref (b 3), .ref (b 4), .int (nI td), .int bs, .int (nI nd), .ref (b 5), .ref (b 6), .int (nI nh), .ref (b 7), .ref (b 8), .int (nI pl), .ref (b 9), .ref (b 10), .long sd, .int ik, .int (nI ks), .int (nI ktd), .int kbs, .int (nI knd), .int (nI knh), .ref (b 11), .ref (b 12), .ref (b 13), .ref (b 14), .ref (b 15), .ref (b 16), .ref (b 17), .long hf] 8 (.int (nI z0)))) = MW cI cB b st n td z0 nh pl bs kd ag bo pa dm dn hh hn pg sv sd ik ks ktd knd knh kbs kag kbo kpa kdm kdn khh khn hf := rfl
set_option maxRecDepth 100000 in
set_option maxHeartbeats 4000000 in
theorem c_X3_pay (l : Launch) (D : va_G) (cI cB : ClassId) (aS : Nat) (b : Nat → Nat) (st n td nd nh pl : Nat) (bs : Int32) (kd ag bo pa dm dn hh hn pg sv : Nat → Int32) (sd : Int64) (ik : Int32) (ks ktd knd knh : Nat) (kbs : Int32) (kag kbo kpa kdm kdn khh khn : Nat → Int32) (hf : Int64)  (hD0 : va_D (fun _ => True) (MW cI cB b st n td nd nh pl bs kd ag bo pa dm dn hh hn pg sv sd ik ks ktd knd knh kbs kag kbo kpa kdm kdn khh khn hf)) (qnd : nd ≤ 6) : Met l yX3_pay (mw yX3_pay cX3_pay 3 (some .int)) rm_X3_pay (RP D cI cB aS (MW cI cB b st n td nd nh pl bs kd ag bo pa dm dn hh hn pg sv sd ik ks ktd knd knh kbs kag kbo kpa kdm kdn khh khn hf) [.ref (b 0)]) (wq mkI (MW cI cB b st n td nd nh pl bs kd ag bo pa dm dn hh hn pg sv sd ik ks ktd knd knh kbs kag kbo kpa kdm kdn khh khn hf) (fun (_ : Unit) => MW cI cB b st n td 0 nh pl bs kd ag bo pa dm dn hh hn pg sv sd ik ks ktd knd knh kbs kag kbo kpa kdm kdn khh khn hf) D (fun (r : Int32) (_ : Unit) => r = (sm dm nd))) 0 0 (inW (MW cI cB b st n td nd nh pl bs kd ag bo pa dm dn hh hn pg sv sd ik ks ktd knd knh kbs kag kbo kpa kdm kdn khh khn hf)) := by
  refine met_of (by decide) (Nat.le_of_ble_eq_true rfl) ?_
  intro p e s m below meth c ls hx hb hr hml hown hg hlocks hin hK hP hl
  have hown : s.vm.findClass RX3 = some m.cls := hown
  have hl : lv_has ls 3 [(0, .ref (b 0))] := hl
  have hD := hD0.here
  have hS0 : va_S (inW (MW cI cB b st n td nd nh pl bs kd ag bo pa dm dn hh hn pg sv sd ik ks ktd knd knh kbs kag kbo kpa kdm kdn khh khn hf)) s.heap s.heap [] := va_S.rf
  obtain ⟨H, hH⟩ : ∃ H, H = s.heap := ⟨_, rfl⟩
  have hS : va_S (inW (MW cI cB b st n td nd nh pl bs kd ag bo pa dm dn hh hn pg sv sd ik ks ktd knd knh kbs kag kbo kpa kdm kdn khh khn hf)) s.heap H [] := by rw [hH]; exact hS0
  clear hS0
  rw [← hH] at hP ⊢
  generalize hAe : inW (MW cI cB b st n td nd nh pl bs kd ag bo pa dm dn hh hn pg sv sd ik ks ktd knd knh kbs kag kbo kpa kdm kdn khh khn hf) = A at hD hS ⊢
  refine lv_iconst (v := (nI 0)) hx hb dX3_pay_0 (by decide) ?_
  refine lv_istore_n (lv' := [(1, .int (nI 0)), (0, .ref (b 0))]) hx hb dX3_pay_1 rfl hl (by decide) rfl (fun ls hl => ?_)
  refine lv_iconst (v := (nI 0)) hx hb dX3_pay_2 (by decide) ?_
  refine lv_istore_n (lv' := [(2, .int (nI 0)), (1, .int (nI 0)), (0, .ref (b 0))]) hx hb dX3_pay_3 rfl hl (by decide) rfl (fun ls hl => ?_)
  -- loop at 4
  refine loopW (nL := 3) (S := Unit) (B := nd) (I := fun i u => True) (lv := fun i u => [(0, .ref (b 0)), (1, .int (sm dm i)), (2, .int (nI i))]) (wf := fun i u => MW cI cB b st n td nd nh pl bs kd ag bo pa dm dn hh hn pg sv sd ik ks ktd knd knh kbs kag kbo kpa kdm kdn khh khn hf) 0 () (Nat.zero_le _) (trivial) (by show lv_has ls 3 [(0, .ref (b 0)), (1, .int (sm dm 0)), (2, .int (nI 0))]; exact lv_sub hl [2, 1, 0] rfl) hP (hD.addr (MW_addr.trans MW_addr.symm)) hS (fun i u ls H locs hj hI hl hP hD hS ih => ?_)
  have hP : va_P D vwCl (MW cI cB b st n td nd nh pl bs kd ag bo pa dm dn hh hn pg sv sd ik ks ktd knd knh kbs kag kbo kpa kdm kdn khh khn hf) H := hP
  have hD : va_D A (MW cI cB b st n td nd nh pl bs kd ag bo pa dm dn hh hn pg sv sd ik ks ktd knd knh kbs kag kbo kpa kdm kdn khh khn hf) := hD
  have hl : lv_has ls 3 [(0, .ref (b 0)), (1, .int (sm dm i)), (2, .int (nI i))] := hl
  have ih_4 := ih
  refine lv_iload_n hx hb dX3_pay_4 rfl (lv_at hl 2 rfl) ?_
  refine lv_aload_n hx hb dX3_pay_5 rfl (lv_at hl 0 rfl) ?_
  refine va_get (D := D) (ci := 3) (v := .int (nI nd)) (C := RX3) (T := TX3) (N := 32) hx hb hg us_X3 hown hK.1 hP 0 MW_g0 rfl 8 (by decide) (hg _ gm_409) (fun _ h9 => h9) rfl dX3_pay_6 ?_
  refine nv_icmp_ge (tgt := 27) hx hb dX3_pay_9 (by omega) (by omega) (by decide) (fun c_9 => ?_) (fun c_9 => ?_)
  · skip
    refine lv_aload_n hx hb dX3_pay_27 rfl (lv_at hl 0 rfl) ?_
    refine lv_iconst (v := (nI 0)) hx hb dX3_pay_28 (by decide) ?_
    refine va_put (D := D) (ci := 3) (v := .int (nI 0)) (ty := .int) (C := RX3) (T := TX3) (N := 32) hx hb hg us_X3 tyX3 tyX3_ok nmX3 hown hK.1 hP hD hS 0 MW_g0 rfl 8 (by decide) (hg _ gm_409) (fun _ h9 => h9) rfl (by decide +kernel) rfl rfl (Nat.le_of_ble_eq_true rfl) dX3_pay_29 (fun H locs hP hD hS => ?_)
    have hP : va_P D vwCl (MW cI cB b st n td 0 nh pl bs kd ag bo pa dm dn hh hn pg sv sd ik ks ktd knd knh kbs kag kbo kpa kdm kdn khh khn hf) H := P_eq hP MW_set_3
    have hD : va_D A (MW cI cB b st n td 0 nh pl bs kd ag bo pa dm dn hh hn pg sv sd ik ks ktd knd knh kbs kag kbo kpa kdm kdn khh khn hf) := D_eq hD MW_set_3
    refine lv_iload_n hx hb dX3_pay_32 rfl (lv_at hl 1 rfl) ?_
    subst hAe
    exact wr_i (w1 := fun (_ : Unit) => MW cI cB b st n td 0 nh pl bs kd ag bo pa dm dn hh hn pg sv sd ik ks ktd knd knh kbs kag kbo kpa kdm kdn khh khn hf) hx hb hr hlocks hS () hP dX3_pay_33 (by rw [show i = nd by omega])
  · skip
    refine lv_iload_n hx hb dX3_pay_12 rfl (lv_at hl 1 rfl) ?_
    refine lv_aload_n hx hb dX3_pay_13 rfl (lv_at hl 0 rfl) ?_
    refine va_get (D := D) (ci := 3) (v := .ref (b 5)) (C := RX3) (T := TX3) (N := 32) hx hb hg us_X3 hown hK.1 hP 0 MW_g0 rfl 9 (by decide) (hg _ gm_410) (fun _ h9 => h9) rfl dX3_pay_14 ?_
    refine lv_iload_n hx hb dX3_pay_17 rfl (lv_at hl 2 rfl) ?_
    refine nv_iald hx hb hK.1 hP 5 0 MW_g5 rfl (by omega) (by omega) dX3_pay_18 ?_
    refine lv_iadd hx hb dX3_pay_19 ?_
    refine lv_istore_n (lv' := [(1, .int ((sm dm i) + (dm i))), (0, .ref (b 0)), (2, .int (nI i))]) hx hb dX3_pay_20 rfl hl (by decide) rfl (fun ls hl => ?_)
    refine lv_iinc (v := (nI (i + 1))) (lv' := [(2, .int (nI (i + 1))), (1, .int ((sm dm i) + (dm i))), (0, .ref (b 0))]) hx hb dX3_pay_21 hl (k := 2) rfl (nI_i1 _) (by decide) rfl (fun ls hl => ?_)
    refine lv_goto (tgt := 4) hx hb dX3_pay_24 (by decide) ?_
    exact ih_4 () _ _ _ (by omega) (trivial) (by show lv_has ls 3 [(0, .ref (b 0)), (1, .int (sm dm (i + 1))), (2, .int (nI (i + 1)))]; rw [show (sm dm (i + 1)) = (sm dm i) + (dm i) from rfl]; exact lv_sub hl [2, 1, 0] rfl) hP (hD.addr (MW_addr.trans MW_addr.symm)) hS
abbrev rm_X3_letter : Room := { frames := 1, cells := 0, slots := 0, locals := 22 }
theorem MW_set_4 {cI cB : ClassId} {b : Nat → Nat} {st n td nd nh pl : Nat} {bs : Int32} {kd ag bo pa dm dn hh hn pg sv : Nat → Int32} {sd : Int64} {ik : Int32} {ks ktd knd knh : Nat} {kbs : Int32} {kag kbo kpa kdm kdn khh khn : Nat → Int32} {hf : Int64} {z0 : Nat → Int32} : List.set (MW cI cB b st n td nd nh pl bs kd ag bo pa dm dn hh hn pg sv sd ik ks ktd knd knh kbs kag kbo kpa kdm kdn khh khn hf) 9 (b 9, .inl (cB, 19, .inl z0)) = MW cI cB b st n td nd nh pl bs kd ag bo pa dm dn hh hn z0 sv sd ik ks ktd knd knh kbs kag kbo kpa kdm kdn khh khn hf := rfl
set_option maxRecDepth 100000 in
set_option maxHeartbeats 4000000 in
theorem c_X3_letter (l : Launch) (D : va_G) (cI cB : ClassId) (aS : Nat) (b : Nat → Nat) (st n td nd nh pl : Nat) (bs : Int32) (kd ag bo pa dm dn hh hn pg sv : Nat → Int32) (sd : Int64) (ik : Int32) (ks ktd knd knh : Nat) (kbs : Int32) (kag kbo kpa kdm kdn khh khn : Nat → Int32) (hf : Int64) (x : Int32) (hD0 : va_D (fun _ => True) (MW cI cB b st n td nd nh pl bs kd ag bo pa dm dn hh hn pg sv sd ik ks ktd knd knh kbs kag kbo kpa kdm kdn khh khn hf)) (qpl : pl ≤ 19) : Met l yX3_letter (mw yX3_letter cX3_letter 2 (some .int)) rm_X3_letter (RP D cI cB aS (MW cI cB b st n td nd nh pl bs kd ag bo pa dm dn hh hn pg sv sd ik ks ktd knd knh kbs kag kbo kpa kdm kdn khh khn hf) [.ref (b 0), .int x]) (wq mkI (MW cI cB b st n td nd nh pl bs kd ag bo pa dm dn hh hn pg sv sd ik ks ktd knd knh kbs kag kbo kpa kdm kdn khh khn hf) (fun (u : (Nat → Int32) × Nat) => MW cI cB b st n td nd nh u.2 bs kd ag bo pa dm dn hh hn u.1 sv sd ik ks ktd knd knh kbs kag kbo kpa kdm kdn khh khn hf) D (fun (r : Int32) (u : (Nat → Int32) × Nat) => (r, u) = letF pg pl x)) 0 0 (inW (MW cI cB b st n td nd nh pl bs kd ag bo pa dm dn hh hn pg sv sd ik ks ktd knd knh kbs kag kbo kpa kdm kdn khh khn hf)) := by
  refine met_of (by decide) (Nat.le_of_ble_eq_true rfl) ?_
  intro p e s m below meth c ls hx hb hr hml hown hg hlocks hin hK hP hl
  have hown : s.vm.findClass RX3 = some m.cls := hown
  have hl : lv_has ls 2 [(0, .ref (b 0)), (1, .int x)] := hl
  have hD := hD0.here
  have hS0 : va_S (inW (MW cI cB b st n td nd nh pl bs kd ag bo pa dm dn hh hn pg sv sd ik ks ktd knd knh kbs kag kbo kpa kdm kdn khh khn hf)) s.heap s.heap [] := va_S.rf
  obtain ⟨H, hH⟩ : ∃ H, H = s.heap := ⟨_, rfl⟩
  have hS : va_S (inW (MW cI cB b st n td nd nh pl bs kd ag bo pa dm dn hh hn pg sv sd ik ks ktd knd knh kbs kag kbo kpa kdm kdn khh khn hf)) s.heap H [] := by rw [hH]; exact hS0
  clear hS0
  rw [← hH] at hP ⊢
  generalize hAe : inW (MW cI cB b st n td nd nh pl bs kd ag bo pa dm dn hh hn pg sv sd ik ks ktd knd knh kbs kag kbo kpa kdm kdn khh khn hf) = A at hD hS ⊢
  refine lv_iload_n hx hb dX3_letter_0 rfl (lv_at hl 1 rfl) ?_
  refine lv_bipush (v := (nI 32)) hx hb dX3_letter_1 (by decide) ?_
  refine lv_bipush (v := (nI 126)) hx hb dX3_letter_3 (by decide) ?_
  refine rdS (As := [.int x, .int (nI 32), .int (nI 126)]) (rest := []) hx hb hml hown hg (c_X3_within l D cI cB aS x (nI 32) (nI 126)) gm_469 sf_X3_within ⟨Nat.le_of_ble_eq_true rfl, Nat.le_of_ble_eq_true rfl⟩ ⟨rfl, rfl⟩ ⟨Nat.zero_le _, Nat.zero_le _⟩ (RP.preS hK (fun k q h => by simp at h)) rfl hl.1 rfl (Nat.le_of_ble_eq_true rfl) dX3_letter_5 ?_
  refine bv_if_ne (tgt := 14) hx hb dX3_letter_8 (by decide) (fun c_8 => ?_) (fun c_8 => ?_)
  · skip
    obtain ⟨x1, q1, q2, ex⟩ := by_of c_8 (by decide) (by decide)
    subst ex
    refine lv_aload_n hx hb dX3_letter_14 rfl (lv_at hl 0 rfl) ?_
    refine va_get (D := D) (ci := 3) (v := .int (nI pl)) (C := RX3) (T := TX3) (N := 32) hx hb hg us_X3 hown hK.1 hP 0 MW_g0 rfl 14 (by decide) (hg _ gm_415) (fun _ h9 => h9) rfl dX3_letter_15 ?_
    refine lv_bipush (v := (nI 19)) hx hb dX3_letter_18 (by decide) ?_
    refine nv_icmp_ne (tgt := 26) hx hb dX3_letter_20 (by omega) (by omega) (by decide) (fun c_20 => ?_) (fun c_20 => ?_)
    · skip
      refine lv_aload_n hx hb dX3_letter_26 rfl (lv_at hl 0 rfl) ?_
      refine va_get (D := D) (ci := 3) (v := .ref (b 9)) (C := RX3) (T := TX3) (N := 32) hx hb hg us_X3 hown hK.1 hP 0 MW_g0 rfl 15 (by decide) (hg _ gm_416) (fun _ h9 => h9) rfl dX3_letter_27 ?_
      refine lv_aload_n hx hb dX3_letter_30 rfl (lv_at hl 0 rfl) ?_
      refine va_get (D := D) (ci := 3) (v := .int (nI pl)) (C := RX3) (T := TX3) (N := 32) hx hb hg us_X3 hown hK.1 hP 0 MW_g0 rfl 14 (by decide) (hg _ gm_415) (fun _ h9 => h9) rfl dX3_letter_31 ?_
      refine lv_iload_n hx hb dX3_letter_34 rfl (lv_at hl 1 rfl) ?_
      refine lv_i2b (v := (nI x1).toInt8.toInt32) hx hb dX3_letter_35 rfl ?_
      refine nv_bast hx hb hK.1 hP hD hS 9 1 MW_g9 rfl (by omega) (by omega) dX3_letter_36 (fun H locs hP hD hS => ?_)
      have hP : va_P D vwCl (MW cI cB b st n td nd nh pl bs kd ag bo pa dm dn hh hn (upd pg pl (vp_nar .byte ((nI x1).toInt8.toInt32))) sv sd ik ks ktd knd knh kbs kag kbo kpa kdm kdn khh khn hf) H := P_eq hP MW_set_4
      have hD : va_D A (MW cI cB b st n td nd nh pl bs kd ag bo pa dm dn hh hn (upd pg pl (vp_nar .byte ((nI x1).toInt8.toInt32))) sv sd ik ks ktd knd knh kbs kag kbo kpa kdm kdn khh khn hf) := D_eq hD MW_set_4
      have e_1 : upd pg pl (vp_nar .byte ((nI x1).toInt8.toInt32)) = upd pg pl (nI x1) := by rw [byte_ok x1 q2]
      rw [e_1] at hP hD
      have hP : va_P D vwCl (MW cI cB b st n td nd nh pl bs kd ag bo pa dm dn hh hn (upd pg pl (nI x1)) sv sd ik ks ktd knd knh kbs kag kbo kpa kdm kdn khh khn hf) H := hP
      have hD : va_D A (MW cI cB b st n td nd nh pl bs kd ag bo pa dm dn hh hn (upd pg pl (nI x1)) sv sd ik ks ktd knd knh kbs kag kbo kpa kdm kdn khh khn hf) := hD
      refine lv_aload_n hx hb dX3_letter_37 rfl (lv_at hl 0 rfl) ?_
      refine lv_dup hx hb dX3_letter_38 rfl ?_
      refine va_get (D := D) (ci := 3) (v := .int (nI pl)) (C := RX3) (T := TX3) (N := 32) hx hb hg us_X3 hown hK.1 hP 0 MW_g0 rfl 14 (by decide) (hg _ gm_415) (fun _ h9 => h9) rfl dX3_letter_39 ?_
      refine lv_iconst (v := (nI 1)) hx hb dX3_letter_42 (by decide) ?_
      refine nv_iadd hx hb dX3_letter_43 ?_
      refine va_put (D := D) (ci := 3) (v := .int (nI (pl + 1))) (ty := .int) (C := RX3) (T := TX3) (N := 32) hx hb hg us_X3 tyX3 tyX3_ok nmX3 hown hK.1 hP hD hS 0 MW_g0 rfl 14 (by decide) (hg _ gm_415) (fun _ h9 => h9) rfl (by decide +kernel) rfl rfl (Nat.le_of_ble_eq_true rfl) dX3_letter_44 (fun H locs hP hD hS => ?_)
      have hP : va_P D vwCl (MW cI cB b st n td nd nh (pl + 1) bs kd ag bo pa dm dn hh hn (upd pg pl (nI x1)) sv sd ik ks ktd knd knh kbs kag kbo kpa kdm kdn khh khn hf) H := P_eq hP MW_set_1
      have hD : va_D A (MW cI cB b st n td nd nh (pl + 1) bs kd ag bo pa dm dn hh hn (upd pg pl (nI x1)) sv sd ik ks ktd knd knh kbs kag kbo kpa kdm kdn khh khn hf) := D_eq hD MW_set_1
      refine lv_aload_n hx hb dX3_letter_47 rfl (lv_at hl 0 rfl) ?_
      refine va_get (D := D) (ci := 3) (v := .int (nI (pl + 1))) (C := RX3) (T := TX3) (N := 32) hx hb hg us_X3 hown hK.1 hP 0 MW_g0 rfl 14 (by decide) (hg _ gm_415) (fun _ h9 => h9) rfl dX3_letter_48 ?_
      subst hAe
      exact wr_i (w1 := fun (u : (Nat → Int32) × Nat) => MW cI cB b st n td nd nh u.2 bs kd ag bo pa dm dn hh hn u.1 sv sd ik ks ktd knd knh kbs kag kbo kpa kdm kdn khh khn hf) hx hb hr hlocks hS (upd pg pl (nI x1), pl + 1) hP dX3_letter_51 (by unfold letF; rw [if_pos c_8, if_neg c_20])
    · skip
      refine lv_bipush (v := (-104)) hx hb dX3_letter_23 (by decide) ?_
      subst hAe
      exact wr_i (w1 := fun (u : (Nat → Int32) × Nat) => MW cI cB b st n td nd nh u.2 bs kd ag bo pa dm dn hh hn u.1 sv sd ik ks ktd knd knh kbs kag kbo kpa kdm kdn khh khn hf) hx hb hr hlocks hS (pg, pl) hP dX3_letter_25 (by unfold letF; rw [if_pos c_8, if_pos c_20])
  · skip
    refine lv_bipush (v := (-102)) hx hb dX3_letter_11 (by decide) ?_
    subst hAe
    exact wr_i (w1 := fun (u : (Nat → Int32) × Nat) => MW cI cB b st n td nd nh u.2 bs kd ag bo pa dm dn hh hn u.1 sv sd ik ks ktd knd knh kbs kag kbo kpa kdm kdn khh khn hf) hx hb hr hlocks hS (pg, pl) hP dX3_letter_13 ((if_neg c_8).symm)
abbrev rm_X3_ageNone : Room := { frames := 1, cells := 0, slots := 0, locals := 21 }
theorem MW_set_5 {cI cB : ClassId} {b : Nat → Nat} {st n td nd nh pl : Nat} {bs : Int32} {kd ag bo pa dm dn hh hn pg sv : Nat → Int32} {sd : Int64} {ik : Int32} {ks ktd knd knh : Nat} {kbs : Int32} {kag kbo kpa kdm kdn khh khn : Nat → Int32} {hf : Int64} {z0 : Nat → Int32} : List.set (MW cI cB b st n td nd nh pl bs kd ag bo pa dm dn hh hn pg sv sd ik ks ktd knd knh kbs kag kbo kpa kdm kdn khh khn hf) 2 (b 2, .inl (cI, 6, .inl z0)) = MW cI cB b st n td nd nh pl bs kd z0 bo pa dm dn hh hn pg sv sd ik ks ktd knd knh kbs kag kbo kpa kdm kdn khh khn hf := rfl
theorem vf_X3_lends : vfacts RX3 yX3_lends cX3_lends 2 (some .boolean) 1 := ⟨⟨rfl, by decide +kernel, by decide +kernel, by decide +kernel⟩, gm_536, gm_719, gm_5, gm_537⟩
set_option maxRecDepth 100000 in
set_option maxHeartbeats 4000000 in
theorem c_X3_ageNone (l : Launch) (D : va_G) (cI cB : ClassId) (aS : Nat) (b : Nat → Nat) (st n td nd nh pl : Nat) (bs : Int32) (kd ag bo pa dm dn hh hn pg sv : Nat → Int32) (sd : Int64) (ik : Int32) (ks ktd knd knh : Nat) (kbs : Int32) (kag kbo kpa kdm kdn khh khn : Nat → Int32) (hf : Int64) (j : Nat) (hD0 : va_D (fun _ => True) (MW cI cB b st n td nd nh pl bs kd ag bo pa dm dn hh hn pg sv sd ik ks ktd knd knh kbs kag kbo kpa kdm kdn khh khn hf)) (qj : j < n) (hn6 : n ≤ 6) : Met l yX3_ageNone (mw yX3_ageNone cX3_ageNone 2 none) rm_X3_ageNone (RP D cI cB aS (MW cI cB b st n td nd nh pl bs kd ag bo pa dm dn hh hn pg sv sd ik ks ktd knd knh kbs kag kbo kpa kdm kdn khh khn hf) [.ref (b 0), .int (nI j)]) (wq mkV (MW cI cB b st n td nd nh pl bs kd ag bo pa dm dn hh hn pg sv sd ik ks ktd knd knh kbs kag kbo kpa kdm kdn khh khn hf) (fun (_ : Unit) => MW cI cB b st n td nd nh pl bs kd (bearF n kd ag j) bo pa dm dn hh hn pg sv sd ik ks ktd knd knh kbs kag kbo kpa kdm kdn khh khn hf) D (fun (_ : Unit) (_ : Unit) => True)) 0 0 (inW (MW cI cB b st n td nd nh pl bs kd ag bo pa dm dn hh hn pg sv sd ik ks ktd knd knh kbs kag kbo kpa kdm kdn khh khn hf)) := by
  refine met_of (by decide) (Nat.le_of_ble_eq_true rfl) ?_
  intro p e s m below meth c ls hx hb hr hml hown hg hlocks hin hK hP hl
  have hown : s.vm.findClass RX3 = some m.cls := hown
  have hl : lv_has ls 2 [(0, .ref (b 0)), (1, .int (nI j))] := hl
  have hD := hD0.here
  have hS0 : va_S (inW (MW cI cB b st n td nd nh pl bs kd ag bo pa dm dn hh hn pg sv sd ik ks ktd knd knh kbs kag kbo kpa kdm kdn khh khn hf)) s.heap s.heap [] := va_S.rf
  obtain ⟨H, hH⟩ : ∃ H, H = s.heap := ⟨_, rfl⟩
  have hS : va_S (inW (MW cI cB b st n td nd nh pl bs kd ag bo pa dm dn hh hn pg sv sd ik ks ktd knd knh kbs kag kbo kpa kdm kdn khh khn hf)) s.heap H [] := by rw [hH]; exact hS0
  clear hS0
  rw [← hH] at hP ⊢
  generalize hAe : inW (MW cI cB b st n td nd nh pl bs kd ag bo pa dm dn hh hn pg sv sd ik ks ktd knd knh kbs kag kbo kpa kdm kdn khh khn hf) = A at hD hS ⊢
  refine lv_aload_n hx hb dX3_ageNone_0 rfl (lv_at hl 0 rfl) ?_
  refine va_get (D := D) (ci := 3) (v := .ref (b 2)) (C := RX3) (T := TX3) (N := 32) hx hb hg us_X3 hown hK.1 hP 0 MW_g0 rfl 3 (by decide) (hg _ gm_404) (fun _ h9 => h9) rfl dX3_ageNone_1 ?_
  refine lv_iload_n hx hb dX3_ageNone_4 rfl (lv_at hl 1 rfl) ?_
  refine lv_iconst (v := (nI 0)) hx hb dX3_ageNone_5 (by decide) ?_
  refine nv_iast hx hb hK.1 hP hD hS 2 0 MW_g2 rfl (by omega) (by omega) dX3_ageNone_6 (fun H locs hP hD hS => ?_)
  have hP : va_P D vwCl (MW cI cB b st n td nd nh pl bs kd (upd ag j (nI 0)) bo pa dm dn hh hn pg sv sd ik ks ktd knd knh kbs kag kbo kpa kdm kdn khh khn hf) H := P_eq hP MW_set_5
  have hD : va_D A (MW cI cB b st n td nd nh pl bs kd (upd ag j (nI 0)) bo pa dm dn hh hn pg sv sd ik ks ktd knd knh kbs kag kbo kpa kdm kdn khh khn hf) := D_eq hD MW_set_5
  refine lv_aload_n hx hb dX3_ageNone_7 rfl (lv_at hl 0 rfl) ?_
  refine lv_iload_n hx hb dX3_ageNone_8 rfl (lv_at hl 1 rfl) ?_
  refine rdV (As := [.int (nI j)]) (rest := []) hx hb hml hown hg (c_X3_lends l D cI cB aS _ st n td nd nh pl bs kd (upd ag j (nI 0)) bo pa dm dn hh hn pg sv sd ik ks ktd knd knh kbs kag kbo kpa kdm kdn khh khn hf j (by first | assumption | omega) (by first | assumption | omega)) gm_535 vf_X3_lends ⟨Nat.le_of_ble_eq_true rfl, Nat.le_of_ble_eq_true rfl⟩ ⟨rfl, rfl⟩ ⟨Nat.zero_le _, Nat.zero_le _⟩ (RP.preV hK hP (q0 := 0) (ci := 3) MW_g0 rfl) rfl hl.1 rfl (Nat.le_of_ble_eq_true rfl) dX3_ageNone_9 ?_
  refine bv_if_eq (tgt := 24) hx hb dX3_ageNone_12 (by decide) (fun c_12 => ?_) (fun c_12 => ?_)
  · skip
    subst hAe
    exact wr_v (w1 := fun (_ : Unit) => MW cI cB b st n td nd nh pl bs kd (bearF n kd ag j) bo pa dm dn hh hn pg sv sd ik ks ktd knd knh kbs kag kbo kpa kdm kdn khh khn hf) hx hb hr hlocks hS () (by show va_P D vwCl (MW cI cB b st n td nd nh pl bs kd (bearF n kd ag j) bo pa dm dn hh hn pg sv sd ik ks ktd knd knh kbs kag kbo kpa kdm kdn khh khn hf) H; rw [bear_f c_12]; exact hP) dX3_ageNone_24 trivial
  · skip
    refine lv_aload_n hx hb dX3_ageNone_15 rfl (lv_at hl 0 rfl) ?_
    refine va_get (D := D) (ci := 3) (v := .ref (b 2)) (C := RX3) (T := TX3) (N := 32) hx hb hg us_X3 hown hK.1 hP 0 MW_g0 rfl 3 (by decide) (hg _ gm_404) (fun _ h9 => h9) rfl dX3_ageNone_16 ?_
    refine lv_iload_n hx hb dX3_ageNone_19 rfl (lv_at hl 1 rfl) ?_
    refine lv_iconst (v := (nI 1)) hx hb dX3_ageNone_20 (by decide) ?_
    refine nv_iadd hx hb dX3_ageNone_21 ?_
    refine lv_iconst (v := (nI 0)) hx hb dX3_ageNone_22 (by decide) ?_
    refine nv_iast hx hb hK.1 hP hD hS 2 0 MW_g2 rfl (by omega) (by omega) dX3_ageNone_23 (fun H locs hP hD hS => ?_)
    have hP : va_P D vwCl (MW cI cB b st n td nd nh pl bs kd (upd (upd ag j (nI 0)) (j + 1) (nI 0)) bo pa dm dn hh hn pg sv sd ik ks ktd knd knh kbs kag kbo kpa kdm kdn khh khn hf) H := P_eq hP MW_set_5
    have hD : va_D A (MW cI cB b st n td nd nh pl bs kd (upd (upd ag j (nI 0)) (j + 1) (nI 0)) bo pa dm dn hh hn pg sv sd ik ks ktd knd knh kbs kag kbo kpa kdm kdn khh khn hf) := D_eq hD MW_set_5
    subst hAe
    exact wr_v (w1 := fun (_ : Unit) => MW cI cB b st n td nd nh pl bs kd (bearF n kd ag j) bo pa dm dn hh hn pg sv sd ik ks ktd knd knh kbs kag kbo kpa kdm kdn khh khn hf) hx hb hr hlocks hS () (by show va_P D vwCl (MW cI cB b st n td nd nh pl bs kd (bearF n kd ag j) bo pa dm dn hh hn pg sv sd ik ks ktd knd knh kbs kag kbo kpa kdm kdn khh khn hf) H; rw [bear_t c_12]; exact hP) dX3_ageNone_24 trivial
abbrev rm_X3_ageMore : Room := { frames := 0, cells := 0, slots := 0, locals := 0 }
set_option maxRecDepth 100000 in
set_option maxHeartbeats 4000000 in
theorem c_X3_ageMore (l : Launch) (D : va_G) (cI cB : ClassId) (aS : Nat) (b : Nat → Nat) (st n td nd nh pl : Nat) (bs : Int32) (kd ag bo pa dm dn hh hn pg sv : Nat → Int32) (sd : Int64) (ik : Int32) (ks ktd knd knh : Nat) (kbs : Int32) (kag kbo kpa kdm kdn khh khn : Nat → Int32) (hf : Int64)  (hD0 : va_D (fun _ => True) (MW cI cB b st n td nd nh pl bs kd ag bo pa dm dn hh hn pg sv sd ik ks ktd knd knh kbs kag kbo kpa kdm kdn khh khn hf)) (hn6 : n ≤ 6) : Met l yX3_ageMore (mw yX3_ageMore cX3_ageMore 2 none) rm_X3_ageMore (RP D cI cB aS (MW cI cB b st n td nd nh pl bs kd ag bo pa dm dn hh hn pg sv sd ik ks ktd knd knh kbs kag kbo kpa kdm kdn khh khn hf) [.ref (b 0)]) (wq mkV (MW cI cB b st n td nd nh pl bs kd ag bo pa dm dn hh hn pg sv sd ik ks ktd knd knh kbs kag kbo kpa kdm kdn khh khn hf) (fun (_ : Unit) => MW cI cB b st n td nd nh pl bs kd (groF kd ag n) bo pa dm dn hh hn pg sv sd ik ks ktd knd knh kbs kag kbo kpa kdm kdn khh khn hf) D (fun (_ : Unit) (_ : Unit) => True)) 0 0 (inW (MW cI cB b st n td nd nh pl bs kd ag bo pa dm dn hh hn pg sv sd ik ks ktd knd knh kbs kag kbo kpa kdm kdn khh khn hf)) := by
  refine met_of (by decide) (Nat.le_of_ble_eq_true rfl) ?_
  intro p e s m below meth c ls hx hb hr hml hown hg hlocks hin hK hP hl
  have hown : s.vm.findClass RX3 = some m.cls := hown
  have hl : lv_has ls 2 [(0, .ref (b 0))] := hl
  have hD := hD0.here
  have hS0 : va_S (inW (MW cI cB b st n td nd nh pl bs kd ag bo pa dm dn hh hn pg sv sd ik ks ktd knd knh kbs kag kbo kpa kdm kdn khh khn hf)) s.heap s.heap [] := va_S.rf
  obtain ⟨H, hH⟩ : ∃ H, H = s.heap := ⟨_, rfl⟩
  have hS : va_S (inW (MW cI cB b st n td nd nh pl bs kd ag bo pa dm dn hh hn pg sv sd ik ks ktd knd knh kbs kag kbo kpa kdm kdn khh khn hf)) s.heap H [] := by rw [hH]; exact hS0
  clear hS0
  rw [← hH] at hP ⊢
  generalize hAe : inW (MW cI cB b st n td nd nh pl bs kd ag bo pa dm dn hh hn pg sv sd ik ks ktd knd knh kbs kag kbo kpa kdm kdn khh khn hf) = A at hD hS ⊢
  refine lv_iconst (v := (nI 0)) hx hb dX3_ageMore_0 (by decide) ?_
  refine lv_istore_n (lv' := [(1, .int (nI 0)), (0, .ref (b 0))]) hx hb dX3_ageMore_1 rfl hl (by decide) rfl (fun ls hl => ?_)
  -- loop at 2
  refine loopW (nL := 2) (S := Unit) (B := n) (I := fun i u => True) (lv := fun i u => [(0, .ref (b 0)), (1, .int (nI i))]) (wf := fun i u => MW cI cB b st n td nd nh pl bs kd (groF kd ag i) bo pa dm dn hh hn pg sv sd ik ks ktd knd knh kbs kag kbo kpa kdm kdn khh khn hf) 0 () (Nat.zero_le _) (trivial) (lv_sub hl [1, 0] rfl) (by show va_P D vwCl (MW cI cB b st n td nd nh pl bs kd (groF kd ag 0) bo pa dm dn hh hn pg sv sd ik ks ktd knd knh kbs kag kbo kpa kdm kdn khh khn hf) H; rw [gro_0]; exact hP) (hD.addr (MW_addr.trans MW_addr.symm)) hS (fun i u ls H locs hj hI hl hP hD hS ih => ?_)
  have hP : va_P D vwCl (MW cI cB b st n td nd nh pl bs kd (groF kd ag i) bo pa dm dn hh hn pg sv sd ik ks ktd knd knh kbs kag kbo kpa kdm kdn khh khn hf) H := hP
  have hD : va_D A (MW cI cB b st n td nd nh pl bs kd (groF kd ag i) bo pa dm dn hh hn pg sv sd ik ks ktd knd knh kbs kag kbo kpa kdm kdn khh khn hf) := hD
  have hl : lv_has ls 2 [(0, .ref (b 0)), (1, .int (nI i))] := hl
  have ih_2 := ih
  refine lv_iload_n hx hb dX3_ageMore_2 rfl (lv_at hl 1 rfl) ?_
  refine lv_aload_n hx hb dX3_ageMore_3 rfl (lv_at hl 0 rfl) ?_
  refine va_get (D := D) (ci := 3) (v := .int (nI n)) (C := RX3) (T := TX3) (N := 32) hx hb hg us_X3 hown hK.1 hP 0 MW_g0 rfl 1 (by decide) (hg _ gm_402) (fun _ h9 => h9) rfl dX3_ageMore_4 ?_
  refine nv_icmp_ge (tgt := 40) hx hb dX3_ageMore_7 (by omega) (by omega) (by decide) (fun c_7 => ?_) (fun c_7 => ?_)
  · skip
    subst hAe
    exact wr_v (w1 := fun (_ : Unit) => MW cI cB b st n td nd nh pl bs kd (groF kd ag n) bo pa dm dn hh hn pg sv sd ik ks ktd knd knh kbs kag kbo kpa kdm kdn khh khn hf) hx hb hr hlocks hS () (by rw [show i = n by omega] at hP; exact hP) dX3_ageMore_40 trivial
  · skip
    refine lv_aload_n hx hb dX3_ageMore_10 rfl (lv_at hl 0 rfl) ?_
    refine va_get (D := D) (ci := 3) (v := .ref (b 2)) (C := RX3) (T := TX3) (N := 32) hx hb hg us_X3 hown hK.1 hP 0 MW_g0 rfl 3 (by decide) (hg _ gm_404) (fun _ h9 => h9) rfl dX3_ageMore_11 ?_
    refine lv_iload_n hx hb dX3_ageMore_14 rfl (lv_at hl 1 rfl) ?_
    refine lv_dup2_11 hx hb dX3_ageMore_15 rfl rfl ?_
    refine nv_iald hx hb hK.1 hP 2 0 MW_g2 rfl (by omega) (by omega) dX3_ageMore_16 ?_
    refine lv_aload_n hx hb dX3_ageMore_17 rfl (lv_at hl 0 rfl) ?_
    refine va_get (D := D) (ci := 3) (v := .ref (b 1)) (C := RX3) (T := TX3) (N := 32) hx hb hg us_X3 hown hK.1 hP 0 MW_g0 rfl 2 (by decide) (hg _ gm_403) (fun _ h9 => h9) rfl dX3_ageMore_18 ?_
    refine lv_iload_n hx hb dX3_ageMore_21 rfl (lv_at hl 1 rfl) ?_
    refine nv_iald hx hb hK.1 hP 1 0 MW_g1 rfl (by omega) (by omega) dX3_ageMore_22 ?_
    refine lv_iconst (v := (nI 4)) hx hb dX3_ageMore_23 (by decide) ?_
    refine lv_icmp_ne (tgt := 31) hx hb dX3_ageMore_24 (by decide) (fun c_24 => ?_) (fun c_24 => ?_)
    · skip
      refine lv_iconst (v := (nI 1)) hx hb dX3_ageMore_31 (by decide) ?_
      refine lv_iadd hx hb dX3_ageMore_32 ?_
      refine nv_iast hx hb hK.1 hP hD hS 2 0 MW_g2 rfl (by omega) (by omega) dX3_ageMore_33 (fun H locs hP hD hS => ?_)
      have hP : va_P D vwCl (MW cI cB b st n td nd nh pl bs kd (upd (groF kd ag i) i (((groF kd ag i) i) + (nI 1))) bo pa dm dn hh hn pg sv sd ik ks ktd knd knh kbs kag kbo kpa kdm kdn khh khn hf) H := P_eq hP MW_set_5
      have hD : va_D A (MW cI cB b st n td nd nh pl bs kd (upd (groF kd ag i) i (((groF kd ag i) i) + (nI 1))) bo pa dm dn hh hn pg sv sd ik ks ktd knd knh kbs kag kbo kpa kdm kdn khh khn hf) := D_eq hD MW_set_5
      have e_1 : upd (groF kd ag i) i (((groF kd ag i) i) + (nI 1)) = groF kd ag (i + 1) := gro_s2 c_24
      rw [e_1] at hP hD
      have hP : va_P D vwCl (MW cI cB b st n td nd nh pl bs kd (groF kd ag (i + 1)) bo pa dm dn hh hn pg sv sd ik ks ktd knd knh kbs kag kbo kpa kdm kdn khh khn hf) H := hP
      have hD : va_D A (MW cI cB b st n td nd nh pl bs kd (groF kd ag (i + 1)) bo pa dm dn hh hn pg sv sd ik ks ktd knd knh kbs kag kbo kpa kdm kdn khh khn hf) := hD
      refine lv_iinc (v := (nI (i + 1))) (lv' := [(1, .int (nI (i + 1))), (0, .ref (b 0))]) hx hb dX3_ageMore_34 hl (k := 1) rfl (nI_i1 _) (by decide) rfl (fun ls hl => ?_)
      refine lv_goto (tgt := 2) hx hb dX3_ageMore_37 (by decide) ?_
      exact ih_2 () _ _ _ (by omega) (trivial) (lv_sub hl [1, 0] rfl) hP (hD.addr (MW_addr.trans MW_addr.symm)) hS
    · skip
      refine lv_iconst (v := (nI 0)) hx hb dX3_ageMore_27 (by decide) ?_
      refine lv_goto (tgt := 32) hx hb dX3_ageMore_28 (by decide) ?_
      refine lv_iadd hx hb dX3_ageMore_32 ?_
      refine nv_iast hx hb hK.1 hP hD hS 2 0 MW_g2 rfl (by omega) (by omega) dX3_ageMore_33 (fun H locs hP hD hS => ?_)
      have hP : va_P D vwCl (MW cI cB b st n td nd nh pl bs kd (upd (groF kd ag i) i (((groF kd ag i) i) + (nI 0))) bo pa dm dn hh hn pg sv sd ik ks ktd knd knh kbs kag kbo kpa kdm kdn khh khn hf) H := P_eq hP MW_set_5
      have hD : va_D A (MW cI cB b st n td nd nh pl bs kd (upd (groF kd ag i) i (((groF kd ag i) i) + (nI 0))) bo pa dm dn hh hn pg sv sd ik ks ktd knd knh kbs kag kbo kpa kdm kdn khh khn hf) := D_eq hD MW_set_5
      have e_2 : upd (groF kd ag i) i (((groF kd ag i) i) + (nI 0)) = groF kd ag (i + 1) := gro_s1 c_24
      rw [e_2] at hP hD
      have hP : va_P D vwCl (MW cI cB b st n td nd nh pl bs kd (groF kd ag (i + 1)) bo pa dm dn hh hn pg sv sd ik ks ktd knd knh kbs kag kbo kpa kdm kdn khh khn hf) H := hP
      have hD : va_D A (MW cI cB b st n td nd nh pl bs kd (groF kd ag (i + 1)) bo pa dm dn hh hn pg sv sd ik ks ktd knd knh kbs kag kbo kpa kdm kdn khh khn hf) := hD
      refine lv_iinc (v := (nI (i + 1))) (lv' := [(1, .int (nI (i + 1))), (0, .ref (b 0))]) hx hb dX3_ageMore_34 hl (k := 1) rfl (nI_i1 _) (by decide) rfl (fun ls hl => ?_)
      refine lv_goto (tgt := 2) hx hb dX3_ageMore_37 (by decide) ?_
      exact ih_2 () _ _ _ (by omega) (trivial) (lv_sub hl [1, 0] rfl) hP (hD.addr (MW_addr.trans MW_addr.symm)) hS
abbrev rm_X3_save : Room := { frames := 0, cells := 0, slots := 0, locals := 0 }
theorem MW_set_6 {cI cB : ClassId} {b : Nat → Nat} {st n td nd nh pl : Nat} {bs : Int32} {kd ag bo pa dm dn hh hn pg sv : Nat → Int32} {sd : Int64} {ik : Int32} {ks ktd knd knh : Nat} {kbs : Int32} {kag kbo kpa kdm kdn khh khn : Nat → Int32} {hf : Int64} {z0 : Nat → Int32} : List.set (MW cI cB b st n td nd nh pl bs kd ag bo pa dm dn hh hn pg sv sd ik ks ktd knd knh kbs kag kbo kpa kdm kdn khh khn hf) 10 (b 10, .inl (cI, 6, .inl z0)) = MW cI cB b st n td nd nh pl bs kd ag bo pa dm dn hh hn pg z0 sd ik ks ktd knd knh kbs kag kbo kpa kdm kdn khh khn hf := rfl
set_option maxRecDepth 100000 in
set_option maxHeartbeats 4000000 in
theorem c_X3_save (l : Launch) (D : va_G) (cI cB : ClassId) (aS : Nat) (b : Nat → Nat) (st n td nd nh pl : Nat) (bs : Int32) (kd ag bo pa dm dn hh hn pg sv : Nat → Int32) (sd : Int64) (ik : Int32) (ks ktd knd knh : Nat) (kbs : Int32) (kag kbo kpa kdm kdn khh khn : Nat → Int32) (hf : Int64)  (hD0 : va_D (fun _ => True) (MW cI cB b st n td nd nh pl bs kd ag bo pa dm dn hh hn pg sv sd ik ks ktd knd knh kbs kag kbo kpa kdm kdn khh khn hf)) : Met l yX3_save (mw yX3_save cX3_save 2 none) rm_X3_save (RP D cI cB aS (MW cI cB b st n td nd nh pl bs kd ag bo pa dm dn hh hn pg sv sd ik ks ktd knd knh kbs kag kbo kpa kdm kdn khh khn hf) [.ref (b 0)]) (wq mkV (MW cI cB b st n td nd nh pl bs kd ag bo pa dm dn hh hn pg sv sd ik ks ktd knd knh kbs kag kbo kpa kdm kdn khh khn hf) (fun (_ : Unit) => MW cI cB b st n td nd nh pl bs kd ag bo pa dm dn hh hn pg ag sd ik ks ktd knd knh kbs kag kbo kpa kdm kdn khh khn hf) D (fun (_ : Unit) (_ : Unit) => True)) 0 0 (inW (MW cI cB b st n td nd nh pl bs kd ag bo pa dm dn hh hn pg sv sd ik ks ktd knd knh kbs kag kbo kpa kdm kdn khh khn hf)) := by
  refine met_of (by decide) (Nat.le_of_ble_eq_true rfl) ?_
  intro p e s m below meth c ls hx hb hr hml hown hg hlocks hin hK hP hl
  have hown : s.vm.findClass RX3 = some m.cls := hown
  have hl : lv_has ls 2 [(0, .ref (b 0))] := hl
  have hD := hD0.here
  have hS0 : va_S (inW (MW cI cB b st n td nd nh pl bs kd ag bo pa dm dn hh hn pg sv sd ik ks ktd knd knh kbs kag kbo kpa kdm kdn khh khn hf)) s.heap s.heap [] := va_S.rf
  obtain ⟨H, hH⟩ : ∃ H, H = s.heap := ⟨_, rfl⟩
  have hS : va_S (inW (MW cI cB b st n td nd nh pl bs kd ag bo pa dm dn hh hn pg sv sd ik ks ktd knd knh kbs kag kbo kpa kdm kdn khh khn hf)) s.heap H [] := by rw [hH]; exact hS0
  clear hS0
  rw [← hH] at hP ⊢
  generalize hAe : inW (MW cI cB b st n td nd nh pl bs kd ag bo pa dm dn hh hn pg sv sd ik ks ktd knd knh kbs kag kbo kpa kdm kdn khh khn hf) = A at hD hS ⊢
  refine lv_iconst (v := (nI 0)) hx hb dX3_save_0 (by decide) ?_
  refine lv_istore_n (lv' := [(1, .int (nI 0)), (0, .ref (b 0))]) hx hb dX3_save_1 rfl hl (by decide) rfl (fun ls hl => ?_)
  -- loop at 2
  refine loopW (nL := 2) (S := Unit) (B := 6) (I := fun i u => True) (lv := fun i u => [(0, .ref (b 0)), (1, .int (nI i))]) (wf := fun i u => MW cI cB b st n td nd nh pl bs kd ag bo pa dm dn hh hn pg (cpF ag sv i) sd ik ks ktd knd knh kbs kag kbo kpa kdm kdn khh khn hf) 0 () (Nat.zero_le _) (trivial) (lv_sub hl [1, 0] rfl) (by show va_P D vwCl (MW cI cB b st n td nd nh pl bs kd ag bo pa dm dn hh hn pg (cpF ag sv 0) sd ik ks ktd knd knh kbs kag kbo kpa kdm kdn khh khn hf) H; rw [cpF_0]; exact hP) (hD.addr (MW_addr.trans MW_addr.symm)) hS (fun i u ls H locs hj hI hl hP hD hS ih => ?_)
  have hP : va_P D vwCl (MW cI cB b st n td nd nh pl bs kd ag bo pa dm dn hh hn pg (cpF ag sv i) sd ik ks ktd knd knh kbs kag kbo kpa kdm kdn khh khn hf) H := hP
  have hD : va_D A (MW cI cB b st n td nd nh pl bs kd ag bo pa dm dn hh hn pg (cpF ag sv i) sd ik ks ktd knd knh kbs kag kbo kpa kdm kdn khh khn hf) := hD
  have hl : lv_has ls 2 [(0, .ref (b 0)), (1, .int (nI i))] := hl
  have ih_2 := ih
  refine lv_iload_n hx hb dX3_save_2 rfl (lv_at hl 1 rfl) ?_
  refine lv_bipush (v := (nI 6)) hx hb dX3_save_3 (by decide) ?_
  refine nv_icmp_ge (tgt := 26) hx hb dX3_save_5 (by omega) (by omega) (by decide) (fun c_5 => ?_) (fun c_5 => ?_)
  · skip
    have hP : va_P D vwCl (MW cI cB b st n td nd nh pl bs kd ag bo pa dm dn hh hn pg ag sd ik ks ktd knd knh kbs kag kbo kpa kdm kdn khh khn hf) H := P_eq (P_congr (g := ag) hP 10 MW_g10 (fun j hj => cpF_at (by omega))) MW_set_6
    have hD : va_D A (MW cI cB b st n td nd nh pl bs kd ag bo pa dm dn hh hn pg ag sd ik ks ktd knd knh kbs kag kbo kpa kdm kdn khh khn hf) := hD.addr (MW_addr.trans MW_addr.symm)
    subst hAe
    exact wr_v (w1 := fun (_ : Unit) => MW cI cB b st n td nd nh pl bs kd ag bo pa dm dn hh hn pg ag sd ik ks ktd knd knh kbs kag kbo kpa kdm kdn khh khn hf) hx hb hr hlocks hS () hP dX3_save_26 trivial
  · skip
    refine lv_aload_n hx hb dX3_save_8 rfl (lv_at hl 0 rfl) ?_
    refine va_get (D := D) (ci := 3) (v := .ref (b 10)) (C := RX3) (T := TX3) (N := 32) hx hb hg us_X3 hown hK.1 hP 0 MW_g0 rfl 16 (by decide) (hg _ gm_417) (fun _ h9 => h9) rfl dX3_save_9 ?_
    refine lv_iload_n hx hb dX3_save_12 rfl (lv_at hl 1 rfl) ?_
    refine lv_aload_n hx hb dX3_save_13 rfl (lv_at hl 0 rfl) ?_
    refine va_get (D := D) (ci := 3) (v := .ref (b 2)) (C := RX3) (T := TX3) (N := 32) hx hb hg us_X3 hown hK.1 hP 0 MW_g0 rfl 3 (by decide) (hg _ gm_404) (fun _ h9 => h9) rfl dX3_save_14 ?_
    refine lv_iload_n hx hb dX3_save_17 rfl (lv_at hl 1 rfl) ?_
    refine nv_iald hx hb hK.1 hP 2 0 MW_g2 rfl (by omega) (by omega) dX3_save_18 ?_
    refine nv_iast hx hb hK.1 hP hD hS 10 0 MW_g10 rfl (by omega) (by omega) dX3_save_19 (fun H locs hP hD hS => ?_)
    have hP : va_P D vwCl (MW cI cB b st n td nd nh pl bs kd ag bo pa dm dn hh hn pg (upd (cpF ag sv i) i (ag i)) sd ik ks ktd knd knh kbs kag kbo kpa kdm kdn khh khn hf) H := P_eq hP MW_set_6
    have hD : va_D A (MW cI cB b st n td nd nh pl bs kd ag bo pa dm dn hh hn pg (upd (cpF ag sv i) i (ag i)) sd ik ks ktd knd knh kbs kag kbo kpa kdm kdn khh khn hf) := D_eq hD MW_set_6
    have e_1 : upd (cpF ag sv i) i (ag i) = cpF ag sv (i + 1) := cpF_s rfl
    rw [e_1] at hP hD
    have hP : va_P D vwCl (MW cI cB b st n td nd nh pl bs kd ag bo pa dm dn hh hn pg (cpF ag sv (i + 1)) sd ik ks ktd knd knh kbs kag kbo kpa kdm kdn khh khn hf) H := hP
    have hD : va_D A (MW cI cB b st n td nd nh pl bs kd ag bo pa dm dn hh hn pg (cpF ag sv (i + 1)) sd ik ks ktd knd knh kbs kag kbo kpa kdm kdn khh khn hf) := hD
    refine lv_iinc (v := (nI (i + 1))) (lv' := [(1, .int (nI (i + 1))), (0, .ref (b 0))]) hx hb dX3_save_20 hl (k := 1) rfl (nI_i1 _) (by decide) rfl (fun ls hl => ?_)
    refine lv_goto (tgt := 2) hx hb dX3_save_23 (by decide) ?_
    exact ih_2 () _ _ _ (by omega) (trivial) (lv_sub hl [1, 0] rfl) hP (hD.addr (MW_addr.trans MW_addr.symm)) hS
abbrev rm_X3_load : Room := { frames := 0, cells := 0, slots := 0, locals := 0 }
set_option maxRecDepth 100000 in
set_option maxHeartbeats 4000000 in
theorem c_X3_load (l : Launch) (D : va_G) (cI cB : ClassId) (aS : Nat) (b : Nat → Nat) (st n td nd nh pl : Nat) (bs : Int32) (kd ag bo pa dm dn hh hn pg sv : Nat → Int32) (sd : Int64) (ik : Int32) (ks ktd knd knh : Nat) (kbs : Int32) (kag kbo kpa kdm kdn khh khn : Nat → Int32) (hf : Int64)  (hD0 : va_D (fun _ => True) (MW cI cB b st n td nd nh pl bs kd ag bo pa dm dn hh hn pg sv sd ik ks ktd knd knh kbs kag kbo kpa kdm kdn khh khn hf)) : Met l yX3_load (mw yX3_load cX3_load 2 none) rm_X3_load (RP D cI cB aS (MW cI cB b st n td nd nh pl bs kd ag bo pa dm dn hh hn pg sv sd ik ks ktd knd knh kbs kag kbo kpa kdm kdn khh khn hf) [.ref (b 0)]) (wq mkV (MW cI cB b st n td nd nh pl bs kd ag bo pa dm dn hh hn pg sv sd ik ks ktd knd knh kbs kag kbo kpa kdm kdn khh khn hf) (fun (_ : Unit) => MW cI cB b st n td nd nh pl bs kd sv bo pa dm dn hh hn pg sv sd ik ks ktd knd knh kbs kag kbo kpa kdm kdn khh khn hf) D (fun (_ : Unit) (_ : Unit) => True)) 0 0 (inW (MW cI cB b st n td nd nh pl bs kd ag bo pa dm dn hh hn pg sv sd ik ks ktd knd knh kbs kag kbo kpa kdm kdn khh khn hf)) := by
  refine met_of (by decide) (Nat.le_of_ble_eq_true rfl) ?_
  intro p e s m below meth c ls hx hb hr hml hown hg hlocks hin hK hP hl
  have hown : s.vm.findClass RX3 = some m.cls := hown
  have hl : lv_has ls 2 [(0, .ref (b 0))] := hl
  have hD := hD0.here
  have hS0 : va_S (inW (MW cI cB b st n td nd nh pl bs kd ag bo pa dm dn hh hn pg sv sd ik ks ktd knd knh kbs kag kbo kpa kdm kdn khh khn hf)) s.heap s.heap [] := va_S.rf
  obtain ⟨H, hH⟩ : ∃ H, H = s.heap := ⟨_, rfl⟩
  have hS : va_S (inW (MW cI cB b st n td nd nh pl bs kd ag bo pa dm dn hh hn pg sv sd ik ks ktd knd knh kbs kag kbo kpa kdm kdn khh khn hf)) s.heap H [] := by rw [hH]; exact hS0
  clear hS0
  rw [← hH] at hP ⊢
  generalize hAe : inW (MW cI cB b st n td nd nh pl bs kd ag bo pa dm dn hh hn pg sv sd ik ks ktd knd knh kbs kag kbo kpa kdm kdn khh khn hf) = A at hD hS ⊢
  refine lv_iconst (v := (nI 0)) hx hb dX3_load_0 (by decide) ?_
  refine lv_istore_n (lv' := [(1, .int (nI 0)), (0, .ref (b 0))]) hx hb dX3_load_1 rfl hl (by decide) rfl (fun ls hl => ?_)
  -- loop at 2
  refine loopW (nL := 2) (S := Unit) (B := 6) (I := fun i u => True) (lv := fun i u => [(0, .ref (b 0)), (1, .int (nI i))]) (wf := fun i u => MW cI cB b st n td nd nh pl bs kd (cpF sv ag i) bo pa dm dn hh hn pg sv sd ik ks ktd knd knh kbs kag kbo kpa kdm kdn khh khn hf) 0 () (Nat.zero_le _) (trivial) (lv_sub hl [1, 0] rfl) (by show va_P D vwCl (MW cI cB b st n td nd nh pl bs kd (cpF sv ag 0) bo pa dm dn hh hn pg sv sd ik ks ktd knd knh kbs kag kbo kpa kdm kdn khh khn hf) H; rw [cpF_0]; exact hP) (hD.addr (MW_addr.trans MW_addr.symm)) hS (fun i u ls H locs hj hI hl hP hD hS ih => ?_)
  have hP : va_P D vwCl (MW cI cB b st n td nd nh pl bs kd (cpF sv ag i) bo pa dm dn hh hn pg sv sd ik ks ktd knd knh kbs kag kbo kpa kdm kdn khh khn hf) H := hP
  have hD : va_D A (MW cI cB b st n td nd nh pl bs kd (cpF sv ag i) bo pa dm dn hh hn pg sv sd ik ks ktd knd knh kbs kag kbo kpa kdm kdn khh khn hf) := hD
  have hl : lv_has ls 2 [(0, .ref (b 0)), (1, .int (nI i))] := hl
  have ih_2 := ih
  refine lv_iload_n hx hb dX3_load_2 rfl (lv_at hl 1 rfl) ?_
  refine lv_bipush (v := (nI 6)) hx hb dX3_load_3 (by decide) ?_
  refine nv_icmp_ge (tgt := 26) hx hb dX3_load_5 (by omega) (by omega) (by decide) (fun c_5 => ?_) (fun c_5 => ?_)
  · skip
    have hP : va_P D vwCl (MW cI cB b st n td nd nh pl bs kd sv bo pa dm dn hh hn pg sv sd ik ks ktd knd knh kbs kag kbo kpa kdm kdn khh khn hf) H := P_eq (P_congr (g := sv) hP 2 MW_g2 (fun j hj => cpF_at (by omega))) MW_set_5
    have hD : va_D A (MW cI cB b st n td nd nh pl bs kd sv bo pa dm dn hh hn pg sv sd ik ks ktd knd knh kbs kag kbo kpa kdm kdn khh khn hf) := hD.addr (MW_addr.trans MW_addr.symm)
    subst hAe
    exact wr_v (w1 := fun (_ : Unit) => MW cI cB b st n td nd nh pl bs kd sv bo pa dm dn hh hn pg sv sd ik ks ktd knd knh kbs kag kbo kpa kdm kdn khh khn hf) hx hb hr hlocks hS () hP dX3_load_26 trivial
  · skip
    refine lv_aload_n hx hb dX3_load_8 rfl (lv_at hl 0 rfl) ?_
    refine va_get (D := D) (ci := 3) (v := .ref (b 2)) (C := RX3) (T := TX3) (N := 32) hx hb hg us_X3 hown hK.1 hP 0 MW_g0 rfl 3 (by decide) (hg _ gm_404) (fun _ h9 => h9) rfl dX3_load_9 ?_
    refine lv_iload_n hx hb dX3_load_12 rfl (lv_at hl 1 rfl) ?_
    refine lv_aload_n hx hb dX3_load_13 rfl (lv_at hl 0 rfl) ?_
    refine va_get (D := D) (ci := 3) (v := .ref (b 10)) (C := RX3) (T := TX3) (N := 32) hx hb hg us_X3 hown hK.1 hP 0 MW_g0 rfl 16 (by decide) (hg _ gm_417) (fun _ h9 => h9) rfl dX3_load_14 ?_
    refine lv_iload_n hx hb dX3_load_17 rfl (lv_at hl 1 rfl) ?_
    refine nv_iald hx hb hK.1 hP 10 0 MW_g10 rfl (by omega) (by omega) dX3_load_18 ?_
    refine nv_iast hx hb hK.1 hP hD hS 2 0 MW_g2 rfl (by omega) (by omega) dX3_load_19 (fun H locs hP hD hS => ?_)
    have hP : va_P D vwCl (MW cI cB b st n td nd nh pl bs kd (upd (cpF sv ag i) i (sv i)) bo pa dm dn hh hn pg sv sd ik ks ktd knd knh kbs kag kbo kpa kdm kdn khh khn hf) H := P_eq hP MW_set_5
    have hD : va_D A (MW cI cB b st n td nd nh pl bs kd (upd (cpF sv ag i) i (sv i)) bo pa dm dn hh hn pg sv sd ik ks ktd knd knh kbs kag kbo kpa kdm kdn khh khn hf) := D_eq hD MW_set_5
    have e_1 : upd (cpF sv ag i) i (sv i) = cpF sv ag (i + 1) := cpF_s rfl
    rw [e_1] at hP hD
    have hP : va_P D vwCl (MW cI cB b st n td nd nh pl bs kd (cpF sv ag (i + 1)) bo pa dm dn hh hn pg sv sd ik ks ktd knd knh kbs kag kbo kpa kdm kdn khh khn hf) H := hP
    have hD : va_D A (MW cI cB b st n td nd nh pl bs kd (cpF sv ag (i + 1)) bo pa dm dn hh hn pg sv sd ik ks ktd knd knh kbs kag kbo kpa kdm kdn khh khn hf) := hD
    refine lv_iinc (v := (nI (i + 1))) (lv' := [(1, .int (nI (i + 1))), (0, .ref (b 0))]) hx hb dX3_load_20 hl (k := 1) rfl (nI_i1 _) (by decide) rfl (fun ls hl => ?_)
    refine lv_goto (tgt := 2) hx hb dX3_load_23 (by decide) ?_
    exact ih_2 () _ _ _ (by omega) (trivial) (lv_sub hl [1, 0] rfl) hP (hD.addr (MW_addr.trans MW_addr.symm)) hS
abbrev rm_X3_birth : Room := { frames := 2, cells := 0, slots := 0, locals := 43 }
theorem vf_X3_mayBirth : vfacts RX3 yX3_mayBirth cX3_mayBirth 2 (some .boolean) 1 := ⟨⟨rfl, by decide +kernel, by decide +kernel, by decide +kernel⟩, gm_530, gm_717, gm_5, gm_531⟩
theorem vf_X3_ageNone : vfacts RX3 yX3_ageNone cX3_ageNone 2 none 1 := ⟨⟨rfl, by decide +kernel, by decide +kernel, by decide +kernel⟩, gm_533, gm_718, gm_5, gm_534⟩
theorem MW_set_7 {cI cB : ClassId} {b : Nat → Nat} {st n td nd nh pl : Nat} {bs : Int32} {kd ag bo pa dm dn hh hn pg sv : Nat → Int32} {sd : Int64} {ik : Int32} {ks ktd knd knh : Nat} {kbs : Int32} {kag kbo kpa kdm kdn khh khn : Nat → Int32} {hf : Int64} {z0 : Nat → Int32} : List.set (MW cI cB b st n td nd nh pl bs kd ag bo pa dm dn hh hn pg sv sd ik ks ktd knd knh kbs kag kbo kpa kdm kdn khh khn hf) 3 (b 3, .inl (cI, 6, .inl z0)) = MW cI cB b st n td nd nh pl bs kd ag z0 pa dm dn hh hn pg sv sd ik ks ktd knd knh kbs kag kbo kpa kdm kdn khh khn hf := rfl
theorem MW_set_8 {cI cB : ClassId} {b : Nat → Nat} {st n td nd nh pl : Nat} {bs : Int32} {kd ag bo pa dm dn hh hn pg sv : Nat → Int32} {sd : Int64} {ik : Int32} {ks ktd knd knh : Nat} {kbs : Int32} {kag kbo kpa kdm kdn khh khn : Nat → Int32} {hf : Int64} {z0 : Int32} : List.set (MW cI cB b st n td nd nh pl bs kd ag bo pa dm dn hh hn pg sv sd ik ks ktd knd knh kbs kag kbo kpa kdm kdn khh khn hf) 0 (b 0, .inr (3, List.set [.int (nI st), .int (nI n), .ref (b 1), .ref (b 2), .ref (b 3), .ref (b 4), .int (nI td), .int bs, .int (nI nd), .ref (b 5), .ref (b 6), .int (nI nh), .ref (b 7), .ref (b 8), .int (nI pl), .ref (b 9), .ref (b 10), .long sd, .int ik, .int (nI ks), .int (nI ktd), .int kbs, .int (nI knd), .int (nI knh), .ref (b 11), .ref (b 12), .ref (b 13), .ref (b 14), .ref (b 15), .ref (b 16), .ref (b 17), .long hf] 7 (.int z0))) = MW cI cB b st n td nd nh pl z0 kd ag bo pa dm dn hh hn pg sv sd ik ks ktd knd knh kbs kag kbo kpa kdm kdn khh khn hf := rfl
set_option maxRecDepth 100000 in
set_option maxHeartbeats 4000000 in
theorem c_X3_birth (l : Launch) (D : va_G) (cI cB : ClassId) (aS : Nat) (b : Nat → Nat) (st n td nd nh pl : Nat) (bs : Int32) (kd ag bo pa dm dn hh hn pg sv : Nat → Int32) (sd : Int64) (ik : Int32) (ks ktd knd knh : Nat) (kbs : Int32) (kag kbo kpa kdm kdn khh khn : Nat → Int32) (hf : Int64) (x : Int32) (hD0 : va_D (fun _ => True) (MW cI cB b st n td nd nh pl bs kd ag bo pa dm dn hh hn pg sv sd ik ks ktd knd knh kbs kag kbo kpa kdm kdn khh khn hf)) (hn6 : n ≤ 6) : Met l yX3_birth (mw yX3_birth cX3_birth 2 (some .int)) rm_X3_birth (RP D cI cB aS (MW cI cB b st n td nd nh pl bs kd ag bo pa dm dn hh hn pg sv sd ik ks ktd knd knh kbs kag kbo kpa kdm kdn khh khn hf) [.ref (b 0), .int x]) (wq mkI (MW cI cB b st n td nd nh pl bs kd ag bo pa dm dn hh hn pg sv sd ik ks ktd knd knh kbs kag kbo kpa kdm kdn khh khn hf) (fun (u : (Nat → Int32) × (Nat → Int32) × Int32) => MW cI cB b st n td nd nh pl u.2.2 kd u.1 u.2.1 pa dm dn hh hn pg sv sd ik ks ktd knd knh kbs kag kbo kpa kdm kdn khh khn hf) D (fun (r : Int32) (u : (Nat → Int32) × (Nat → Int32) × Int32) => (r, u) = birF n kd ag bo bs x)) 0 0 (inW (MW cI cB b st n td nd nh pl bs kd ag bo pa dm dn hh hn pg sv sd ik ks ktd knd knh kbs kag kbo kpa kdm kdn khh khn hf)) := by
  refine met_of (by decide) (Nat.le_of_ble_eq_true rfl) ?_
  intro p e s m below meth c ls hx hb hr hml hown hg hlocks hin hK hP hl
  have hown : s.vm.findClass RX3 = some m.cls := hown
  have hl : lv_has ls 2 [(0, .ref (b 0)), (1, .int x)] := hl
  have hD := hD0.here
  have hS0 : va_S (inW (MW cI cB b st n td nd nh pl bs kd ag bo pa dm dn hh hn pg sv sd ik ks ktd knd knh kbs kag kbo kpa kdm kdn khh khn hf)) s.heap s.heap [] := va_S.rf
  obtain ⟨H, hH⟩ : ∃ H, H = s.heap := ⟨_, rfl⟩
  have hS : va_S (inW (MW cI cB b st n td nd nh pl bs kd ag bo pa dm dn hh hn pg sv sd ik ks ktd knd knh kbs kag kbo kpa kdm kdn khh khn hf)) s.heap H [] := by rw [hH]; exact hS0
  clear hS0
  rw [← hH] at hP ⊢
  generalize hAe : inW (MW cI cB b st n td nd nh pl bs kd ag bo pa dm dn hh hn pg sv sd ik ks ktd knd knh kbs kag kbo kpa kdm kdn khh khn hf) = A at hD hS ⊢
  refine lv_aload_n hx hb dX3_birth_0 rfl (lv_at hl 0 rfl) ?_
  refine lv_iload_n hx hb dX3_birth_1 rfl (lv_at hl 1 rfl) ?_
  refine rdV (As := [.int x]) (rest := []) hx hb hml hown hg (c_X3_isHouse l D cI cB aS _ st n td nd nh pl bs kd ag bo pa dm dn hh hn pg sv sd ik ks ktd knd knh kbs kag kbo kpa kdm kdn khh khn hf x (by first | assumption | omega)) gm_497 vf_X3_isHouse ⟨Nat.le_of_ble_eq_true rfl, Nat.le_of_ble_eq_true rfl⟩ ⟨rfl, rfl⟩ ⟨Nat.zero_le _, Nat.zero_le _⟩ (RP.preV hK hP (q0 := 0) (ci := 3) MW_g0 rfl) rfl hl.1 rfl (Nat.le_of_ble_eq_true rfl) dX3_birth_2 ?_
  refine bv_if_ne (tgt := 11) hx hb dX3_birth_5 (by decide) (fun c_5 => ?_) (fun c_5 => ?_)
  · skip
    obtain ⟨j, qj, ex⟩ := hIn_of c_5 (by omega)
    subst ex
    refine lv_aload_n hx hb dX3_birth_11 rfl (lv_at hl 0 rfl) ?_
    refine lv_iload_n hx hb dX3_birth_12 rfl (lv_at hl 1 rfl) ?_
    refine rdV (As := [.int (nI j)]) (rest := []) hx hb hml hown hg (c_X3_mayBirth l D cI cB aS _ st n td nd nh pl bs kd ag bo pa dm dn hh hn pg sv sd ik ks ktd knd knh kbs kag kbo kpa kdm kdn khh khn hf j (by first | assumption | omega)) gm_529 vf_X3_mayBirth ⟨Nat.le_of_ble_eq_true rfl, Nat.le_of_ble_eq_true rfl⟩ ⟨rfl, rfl⟩ ⟨Nat.zero_le _, Nat.zero_le _⟩ (RP.preV hK hP (q0 := 0) (ci := 3) MW_g0 rfl) rfl hl.1 rfl (Nat.le_of_ble_eq_true rfl) dX3_birth_13 ?_
    refine bv_if_ne (tgt := 22) hx hb dX3_birth_16 (by decide) (fun c_16 => ?_) (fun c_16 => ?_)
    · skip
      refine lv_aload_n hx hb dX3_birth_22 rfl (lv_at hl 0 rfl) ?_
      refine lv_iload_n hx hb dX3_birth_23 rfl (lv_at hl 1 rfl) ?_
      refine wrVv (As := [.int (nI j)]) (rest := []) hx hb hml hown hg (c_X3_ageNone l D cI cB aS _ st n td nd nh pl bs kd ag bo pa dm dn hh hn pg sv sd ik ks ktd knd knh kbs kag kbo kpa kdm kdn khh khn hf j (hD.weaken (fun _ _ _ _ => trivial)) (by first | assumption | omega) (by first | assumption | omega)) gm_532 vf_X3_ageNone ⟨Nat.le_of_ble_eq_true rfl, Nat.le_of_ble_eq_true rfl⟩ ⟨rfl, rfl⟩ ⟨Nat.zero_le _, Nat.zero_le _⟩ (RP.preV hK hP (q0 := 0) (ci := 3) MW_g0 rfl) rfl hl.1 rfl (Nat.le_of_ble_eq_true rfl) dX3_birth_24 hS (inW_all hD) (fun u_1 H1 locs hpo_1 hP1 hk1 hS => ?_)
      have hP : va_P D vwCl (MW cI cB b st n td nd nh pl bs kd (bearF n kd ag j) bo pa dm dn hh hn pg sv sd ik ks ktd knd knh kbs kag kbo kpa kdm kdn khh khn hf) H1 := hP1
      have hD : va_D A (MW cI cB b st n td nd nh pl bs kd (bearF n kd ag j) bo pa dm dn hh hn pg sv sd ik ks ktd knd knh kbs kag kbo kpa kdm kdn khh khn hf) := hD.addr (MW_addr.trans MW_addr.symm)
      clear hP1 hk1
      generalize H1 = H at hP hS ⊢
      refine lv_aload_n hx hb dX3_birth_27 rfl (lv_at hl 0 rfl) ?_
      refine va_get (D := D) (ci := 3) (v := .ref (b 3)) (C := RX3) (T := TX3) (N := 32) hx hb hg us_X3 hown hK.1 hP 0 MW_g0 rfl 4 (by decide) (hg _ gm_405) (fun _ h9 => h9) rfl dX3_birth_28 ?_
      refine lv_iload_n hx hb dX3_birth_31 rfl (lv_at hl 1 rfl) ?_
      refine lv_dup2_11 hx hb dX3_birth_32 rfl rfl ?_
      refine nv_iald hx hb hK.1 hP 3 0 MW_g3 rfl (by omega) (by omega) dX3_birth_33 ?_
      refine lv_iconst (v := (nI 1)) hx hb dX3_birth_34 (by decide) ?_
      refine lv_iadd hx hb dX3_birth_35 ?_
      refine nv_iast hx hb hK.1 hP hD hS 3 0 MW_g3 rfl (by omega) (by omega) dX3_birth_36 (fun H locs hP hD hS => ?_)
      have hP : va_P D vwCl (MW cI cB b st n td nd nh pl bs kd (bearF n kd ag j) (upd bo j ((bo j) + (nI 1))) pa dm dn hh hn pg sv sd ik ks ktd knd knh kbs kag kbo kpa kdm kdn khh khn hf) H := P_eq hP MW_set_7
      have hD : va_D A (MW cI cB b st n td nd nh pl bs kd (bearF n kd ag j) (upd bo j ((bo j) + (nI 1))) pa dm dn hh hn pg sv sd ik ks ktd knd knh kbs kag kbo kpa kdm kdn khh khn hf) := D_eq hD MW_set_7
      refine lv_aload_n hx hb dX3_birth_37 rfl (lv_at hl 0 rfl) ?_
      refine lv_dup hx hb dX3_birth_38 rfl ?_
      refine va_get (D := D) (ci := 3) (v := .int bs) (C := RX3) (T := TX3) (N := 32) hx hb hg us_X3 hown hK.1 hP 0 MW_g0 rfl 7 (by decide) (hg _ gm_408) (fun _ h9 => h9) rfl dX3_birth_39 ?_
      refine lv_iconst (v := (nI 1)) hx hb dX3_birth_42 (by decide) ?_
      refine lv_iadd hx hb dX3_birth_43 ?_
      refine va_put (D := D) (ci := 3) (v := .int (bs + (nI 1))) (ty := .int) (C := RX3) (T := TX3) (N := 32) hx hb hg us_X3 tyX3 tyX3_ok nmX3 hown hK.1 hP hD hS 0 MW_g0 rfl 7 (by decide) (hg _ gm_408) (fun _ h9 => h9) rfl (by decide +kernel) rfl rfl (Nat.le_of_ble_eq_true rfl) dX3_birth_44 (fun H locs hP hD hS => ?_)
      have hP : va_P D vwCl (MW cI cB b st n td nd nh pl (bs + (nI 1)) kd (bearF n kd ag j) (upd bo j ((bo j) + (nI 1))) pa dm dn hh hn pg sv sd ik ks ktd knd knh kbs kag kbo kpa kdm kdn khh khn hf) H := P_eq hP MW_set_8
      have hD : va_D A (MW cI cB b st n td nd nh pl (bs + (nI 1)) kd (bearF n kd ag j) (upd bo j ((bo j) + (nI 1))) pa dm dn hh hn pg sv sd ik ks ktd knd knh kbs kag kbo kpa kdm kdn khh khn hf) := D_eq hD MW_set_8
      refine lv_aload_n hx hb dX3_birth_47 rfl (lv_at hl 0 rfl) ?_
      refine lv_iload_n hx hb dX3_birth_48 rfl (lv_at hl 1 rfl) ?_
      refine rdV (As := [.int (nI j)]) (rest := []) hx hb hml hown hg (c_X3_lends l D cI cB aS _ st n td nd nh pl (bs + (nI 1)) kd (bearF n kd ag j) (upd bo j ((bo j) + (nI 1))) pa dm dn hh hn pg sv sd ik ks ktd knd knh kbs kag kbo kpa kdm kdn khh khn hf j (by first | assumption | omega) (by first | assumption | omega)) gm_535 vf_X3_lends ⟨Nat.le_of_ble_eq_true rfl, Nat.le_of_ble_eq_true rfl⟩ ⟨rfl, rfl⟩ ⟨Nat.zero_le _, Nat.zero_le _⟩ (RP.preV hK hP (q0 := 0) (ci := 3) MW_g0 rfl) rfl hl.1 rfl (Nat.le_of_ble_eq_true rfl) dX3_birth_49 ?_
      refine bv_if_eq (tgt := 69) hx hb dX3_birth_52 (by decide) (fun c_52 => ?_) (fun c_52 => ?_)
      · skip
        refine lv_iconst (v := (nI 1)) hx hb dX3_birth_69 (by decide) ?_
        subst hAe
        exact wr_i (w1 := fun (u : (Nat → Int32) × (Nat → Int32) × Int32) => MW cI cB b st n td nd nh pl u.2.2 kd u.1 u.2.1 pa dm dn hh hn pg sv sd ik ks ktd knd knh kbs kag kbo kpa kdm kdn khh khn hf) hx hb hr hlocks hS (bearF n kd ag j, bornF n kd bo j, bs + nI 1) (by have e := born_f (bo := bo) c_52; rw [← e] at hP; exact hP) dX3_birth_70 (by rw [bir_ok qj hn6 c_16, if_neg c_52])
      · skip
        refine lv_aload_n hx hb dX3_birth_55 rfl (lv_at hl 0 rfl) ?_
        refine va_get (D := D) (ci := 3) (v := .ref (b 3)) (C := RX3) (T := TX3) (N := 32) hx hb hg us_X3 hown hK.1 hP 0 MW_g0 rfl 4 (by decide) (hg _ gm_405) (fun _ h9 => h9) rfl dX3_birth_56 ?_
        refine lv_iload_n hx hb dX3_birth_59 rfl (lv_at hl 1 rfl) ?_
        refine lv_iconst (v := (nI 1)) hx hb dX3_birth_60 (by decide) ?_
        refine nv_iadd hx hb dX3_birth_61 ?_
        refine lv_dup2_11 hx hb dX3_birth_62 rfl rfl ?_
        refine nv_iald hx hb hK.1 hP 3 0 MW_g3 rfl (by omega) (by omega) dX3_birth_63 ?_
        refine lv_iconst (v := (nI 1)) hx hb dX3_birth_64 (by decide) ?_
        refine lv_iadd hx hb dX3_birth_65 ?_
        refine nv_iast hx hb hK.1 hP hD hS 3 0 MW_g3 rfl (by omega) (by omega) dX3_birth_66 (fun H locs hP hD hS => ?_)
        have hP : va_P D vwCl (MW cI cB b st n td nd nh pl (bs + (nI 1)) kd (bearF n kd ag j) (upd (upd bo j ((bo j) + (nI 1))) (j + 1) (((upd bo j ((bo j) + (nI 1))) (j + 1)) + (nI 1))) pa dm dn hh hn pg sv sd ik ks ktd knd knh kbs kag kbo kpa kdm kdn khh khn hf) H := P_eq hP MW_set_7
        have hD : va_D A (MW cI cB b st n td nd nh pl (bs + (nI 1)) kd (bearF n kd ag j) (upd (upd bo j ((bo j) + (nI 1))) (j + 1) (((upd bo j ((bo j) + (nI 1))) (j + 1)) + (nI 1))) pa dm dn hh hn pg sv sd ik ks ktd knd knh kbs kag kbo kpa kdm kdn khh khn hf) := D_eq hD MW_set_7
        refine lv_iconst (v := (nI 2)) hx hb dX3_birth_67 (by decide) ?_
        subst hAe
        exact wr_i (w1 := fun (u : (Nat → Int32) × (Nat → Int32) × Int32) => MW cI cB b st n td nd nh pl u.2.2 kd u.1 u.2.1 pa dm dn hh hn pg sv sd ik ks ktd knd knh kbs kag kbo kpa kdm kdn khh khn hf) hx hb hr hlocks hS (bearF n kd ag j, bornF n kd bo j, bs + nI 1) (by have e := born_t (bo := bo) c_52; rw [← e] at hP; exact hP) dX3_birth_68 (by rw [bir_ok qj hn6 c_16, if_pos c_52])
    · skip
      refine lv_bipush (v := (-103)) hx hb dX3_birth_19 (by decide) ?_
      subst hAe
      exact wr_i (w1 := fun (u : (Nat → Int32) × (Nat → Int32) × Int32) => MW cI cB b st n td nd nh pl u.2.2 kd u.1 u.2.1 pa dm dn hh hn pg sv sd ik ks ktd knd knh kbs kag kbo kpa kdm kdn khh khn hf) hx hb hr hlocks hS (ag, bo, bs) hP dX3_birth_21 ((bir_2 qj hn6 c_16).symm)
  · skip
    refine lv_bipush (v := (-101)) hx hb dX3_birth_8 (by decide) ?_
    subst hAe
    exact wr_i (w1 := fun (u : (Nat → Int32) × (Nat → Int32) × Int32) => MW cI cB b st n td nd nh pl u.2.2 kd u.1 u.2.1 pa dm dn hh hn pg sv sd ik ks ktd knd knh kbs kag kbo kpa kdm kdn khh khn hf) hx hb hr hlocks hS (ag, bo, bs) hP dX3_birth_10 ((bir_1 c_5).symm)
abbrev rm_X3_day : Room := { frames := 1, cells := 0, slots := 0, locals := 21 }
theorem vf_X3_ageMore : vfacts RX3 yX3_ageMore cX3_ageMore 2 none 0 := ⟨⟨rfl, by decide +kernel, by decide +kernel, by decide +kernel⟩, gm_543, gm_720, gm_5, gm_544⟩
theorem MW_set_9 {cI cB : ClassId} {b : Nat → Nat} {st n td nd nh pl : Nat} {bs : Int32} {kd ag bo pa dm dn hh hn pg sv : Nat → Int32} {sd : Int64} {ik : Int32} {ks ktd knd knh : Nat} {kbs : Int32} {kag kbo kpa kdm kdn khh khn : Nat → Int32} {hf : Int64} {z0 : Nat} : List.set (MW cI cB b st n td nd nh pl bs kd ag bo pa dm dn hh hn pg sv sd ik ks ktd knd knh kbs kag kbo kpa kdm kdn khh khn hf) 0 (b 0, .inr (3, List.set [.int (nI st), .int (nI n), .ref (b 1), .ref (b 2), .ref (b 3), .ref (b 4), .int (nI td), .int bs, .int (nI nd), .ref (b 5), .ref (b 6), .int (nI nh), .ref (b 7), .ref (b 8), .int (nI pl), .ref (b 9), .ref (b 10), .long sd, .int ik, .int (nI ks), .int (nI ktd), .int kbs, .int (nI knd), .int (nI knh), .ref (b 11), .ref (b 12), .ref (b 13), .ref (b 14), .ref (b 15), .ref (b 16), .ref (b 17), .long hf] 6 (.int (nI z0)))) = MW cI cB b st n z0 nd nh pl bs kd ag bo pa dm dn hh hn pg sv sd ik ks ktd knd knh kbs kag kbo kpa kdm kdn khh khn hf := rfl
theorem MW_set_10 {cI cB : ClassId} {b : Nat → Nat} {st n td nd nh pl : Nat} {bs : Int32} {kd ag bo pa dm dn hh hn pg sv : Nat → Int32} {sd : Int64} {ik : Int32} {ks ktd knd knh : Nat} {kbs : Int32} {kag kbo kpa kdm kdn khh khn : Nat → Int32} {hf : Int64} {z0 : Nat → Int32} : List.set (MW cI cB b st n td nd nh pl bs kd ag bo pa dm dn hh hn pg sv sd ik ks ktd knd knh kbs kag kbo kpa kdm kdn khh khn hf) 4 (b 4, .inl (cI, 186, .inl z0)) = MW cI cB b st n td nd nh pl bs kd ag bo z0 dm dn hh hn pg sv sd ik ks ktd knd knh kbs kag kbo kpa kdm kdn khh khn hf := rfl
set_option maxRecDepth 100000 in
set_option maxHeartbeats 4000000 in
theorem c_X3_day (l : Launch) (D : va_G) (cI cB : ClassId) (aS : Nat) (b : Nat → Nat) (st n td nd nh pl : Nat) (bs : Int32) (kd ag bo pa dm dn hh hn pg sv : Nat → Int32) (sd : Int64) (ik : Int32) (ks ktd knd knh : Nat) (kbs : Int32) (kag kbo kpa kdm kdn khh khn : Nat → Int32) (hf : Int64)  (hD0 : va_D (fun _ => True) (MW cI cB b st n td nd nh pl bs kd ag bo pa dm dn hh hn pg sv sd ik ks ktd knd knh kbs kag kbo kpa kdm kdn khh khn hf)) (hn6 : n ≤ 6) (qt : td ≤ 30) : Met l yX3_day (mw yX3_day cX3_day 2 (some .int)) rm_X3_day (RP D cI cB aS (MW cI cB b st n td nd nh pl bs kd ag bo pa dm dn hh hn pg sv sd ik ks ktd knd knh kbs kag kbo kpa kdm kdn khh khn hf) [.ref (b 0)]) (wq mkI (MW cI cB b st n td nd nh pl bs kd ag bo pa dm dn hh hn pg sv sd ik ks ktd knd knh kbs kag kbo kpa kdm kdn khh khn hf) (fun (u : (Nat → Int32) × (Nat → Int32) × Nat) => MW cI cB b st n u.2.2 nd nh pl bs kd u.1 bo u.2.1 dm dn hh hn pg sv sd ik ks ktd knd knh kbs kag kbo kpa kdm kdn khh khn hf) D (fun (r : Int32) (u : (Nat → Int32) × (Nat → Int32) × Nat) => (r, u) = dayF n td kd ag pa)) 0 0 (inW (MW cI cB b st n td nd nh pl bs kd ag bo pa dm dn hh hn pg sv sd ik ks ktd knd knh kbs kag kbo kpa kdm kdn khh khn hf)) := by
  refine met_of (by decide) (Nat.le_of_ble_eq_true rfl) ?_
  intro p e s m below meth c ls hx hb hr hml hown hg hlocks hin hK hP hl
  have hown : s.vm.findClass RX3 = some m.cls := hown
  have hl : lv_has ls 2 [(0, .ref (b 0))] := hl
  have hD := hD0.here
  have hS0 : va_S (inW (MW cI cB b st n td nd nh pl bs kd ag bo pa dm dn hh hn pg sv sd ik ks ktd knd knh kbs kag kbo kpa kdm kdn khh khn hf)) s.heap s.heap [] := va_S.rf
  obtain ⟨H, hH⟩ : ∃ H, H = s.heap := ⟨_, rfl⟩
  have hS : va_S (inW (MW cI cB b st n td nd nh pl bs kd ag bo pa dm dn hh hn pg sv sd ik ks ktd knd knh kbs kag kbo kpa kdm kdn khh khn hf)) s.heap H [] := by rw [hH]; exact hS0
  clear hS0
  rw [← hH] at hP ⊢
  generalize hAe : inW (MW cI cB b st n td nd nh pl bs kd ag bo pa dm dn hh hn pg sv sd ik ks ktd knd knh kbs kag kbo kpa kdm kdn khh khn hf) = A at hD hS ⊢
  refine lv_aload_n hx hb dX3_day_0 rfl (lv_at hl 0 rfl) ?_
  refine va_get (D := D) (ci := 3) (v := .int (nI n)) (C := RX3) (T := TX3) (N := 32) hx hb hg us_X3 hown hK.1 hP 0 MW_g0 rfl 1 (by decide) (hg _ gm_402) (fun _ h9 => h9) rfl dX3_day_1 ?_
  refine nv_if_ne (tgt := 10) hx hb dX3_day_4 (by omega) (by decide) (fun c_4 => ?_) (fun c_4 => ?_)
  · skip
    refine lv_aload_n hx hb dX3_day_10 rfl (lv_at hl 0 rfl) ?_
    refine va_get (D := D) (ci := 3) (v := .int (nI td)) (C := RX3) (T := TX3) (N := 32) hx hb hg us_X3 hown hK.1 hP 0 MW_g0 rfl 6 (by decide) (hg _ gm_407) (fun _ h9 => h9) rfl dX3_day_11 ?_
    refine lv_bipush (v := (nI 30)) hx hb dX3_day_14 (by decide) ?_
    refine nv_icmp_ne (tgt := 22) hx hb dX3_day_16 (by omega) (by omega) (by decide) (fun c_16 => ?_) (fun c_16 => ?_)
    · skip
      refine lv_iconst (v := (nI 0)) hx hb dX3_day_22 (by decide) ?_
      refine lv_istore_n (lv' := [(1, .int (nI 0)), (0, .ref (b 0))]) hx hb dX3_day_23 rfl hl (by decide) rfl (fun ls hl => ?_)
      -- loop at 24
      refine loopW (nL := 2) (S := Unit) (B := n) (I := fun i u => True) (lv := fun i u => [(0, .ref (b 0)), (1, .int (nI i))]) (wf := fun i u => MW cI cB b st n td nd nh pl bs kd ag bo (paF ag pa td i) dm dn hh hn pg sv sd ik ks ktd knd knh kbs kag kbo kpa kdm kdn khh khn hf) 0 () (Nat.zero_le _) (trivial) (lv_sub hl [1, 0] rfl) (by show va_P D vwCl (MW cI cB b st n td nd nh pl bs kd ag bo (paF ag pa td 0) dm dn hh hn pg sv sd ik ks ktd knd knh kbs kag kbo kpa kdm kdn khh khn hf) H; rw [pa_0]; exact hP) (hD.addr (MW_addr.trans MW_addr.symm)) hS (fun i u ls H locs hj hI hl hP hD hS ih => ?_)
      have hP : va_P D vwCl (MW cI cB b st n td nd nh pl bs kd ag bo (paF ag pa td i) dm dn hh hn pg sv sd ik ks ktd knd knh kbs kag kbo kpa kdm kdn khh khn hf) H := hP
      have hD : va_D A (MW cI cB b st n td nd nh pl bs kd ag bo (paF ag pa td i) dm dn hh hn pg sv sd ik ks ktd knd knh kbs kag kbo kpa kdm kdn khh khn hf) := hD
      have hl : lv_has ls 2 [(0, .ref (b 0)), (1, .int (nI i))] := hl
      have ih_24 := ih
      refine lv_iload_n hx hb dX3_day_24 rfl (lv_at hl 1 rfl) ?_
      refine lv_aload_n hx hb dX3_day_25 rfl (lv_at hl 0 rfl) ?_
      refine va_get (D := D) (ci := 3) (v := .int (nI n)) (C := RX3) (T := TX3) (N := 32) hx hb hg us_X3 hown hK.1 hP 0 MW_g0 rfl 1 (by decide) (hg _ gm_402) (fun _ h9 => h9) rfl dX3_day_26 ?_
      refine nv_icmp_ge (tgt := 58) hx hb dX3_day_29 (by omega) (by omega) (by decide) (fun c_29 => ?_) (fun c_29 => ?_)
      · skip
        refine lv_aload_n hx hb dX3_day_58 rfl (lv_at hl 0 rfl) ?_
        refine wrVv (As := []) (rest := []) hx hb hml hown hg (c_X3_ageMore l D cI cB aS _ st n td nd nh pl bs kd ag bo (paF ag pa td i) dm dn hh hn pg sv sd ik ks ktd knd knh kbs kag kbo kpa kdm kdn khh khn hf (hD.weaken (fun _ _ _ _ => trivial)) (by first | assumption | omega)) gm_542 vf_X3_ageMore ⟨Nat.le_of_ble_eq_true rfl, Nat.le_of_ble_eq_true rfl⟩ ⟨rfl, rfl⟩ ⟨Nat.zero_le _, Nat.zero_le _⟩ (RP.preV hK hP (q0 := 0) (ci := 3) MW_g0 rfl) rfl hl.1 rfl (Nat.le_of_ble_eq_true rfl) dX3_day_59 hS (inW_all hD) (fun u_1 H1 locs hpo_1 hP1 hk1 hS => ?_)
        have hP : va_P D vwCl (MW cI cB b st n td nd nh pl bs kd (groF kd ag n) bo (paF ag pa td i) dm dn hh hn pg sv sd ik ks ktd knd knh kbs kag kbo kpa kdm kdn khh khn hf) H1 := hP1
        have hD : va_D A (MW cI cB b st n td nd nh pl bs kd (groF kd ag n) bo (paF ag pa td i) dm dn hh hn pg sv sd ik ks ktd knd knh kbs kag kbo kpa kdm kdn khh khn hf) := hD.addr (MW_addr.trans MW_addr.symm)
        clear hP1 hk1
        generalize H1 = H at hP hS ⊢
        refine lv_aload_n hx hb dX3_day_62 rfl (lv_at hl 0 rfl) ?_
        refine lv_dup hx hb dX3_day_63 rfl ?_
        refine va_get (D := D) (ci := 3) (v := .int (nI td)) (C := RX3) (T := TX3) (N := 32) hx hb hg us_X3 hown hK.1 hP 0 MW_g0 rfl 6 (by decide) (hg _ gm_407) (fun _ h9 => h9) rfl dX3_day_64 ?_
        refine lv_iconst (v := (nI 1)) hx hb dX3_day_67 (by decide) ?_
        refine nv_iadd hx hb dX3_day_68 ?_
        refine va_put (D := D) (ci := 3) (v := .int (nI (td + 1))) (ty := .int) (C := RX3) (T := TX3) (N := 32) hx hb hg us_X3 tyX3 tyX3_ok nmX3 hown hK.1 hP hD hS 0 MW_g0 rfl 6 (by decide) (hg _ gm_407) (fun _ h9 => h9) rfl (by decide +kernel) rfl rfl (Nat.le_of_ble_eq_true rfl) dX3_day_69 (fun H locs hP hD hS => ?_)
        have hP : va_P D vwCl (MW cI cB b st n (td + 1) nd nh pl bs kd (groF kd ag n) bo (paF ag pa td i) dm dn hh hn pg sv sd ik ks ktd knd knh kbs kag kbo kpa kdm kdn khh khn hf) H := P_eq hP MW_set_9
        have hD : va_D A (MW cI cB b st n (td + 1) nd nh pl bs kd (groF kd ag n) bo (paF ag pa td i) dm dn hh hn pg sv sd ik ks ktd knd knh kbs kag kbo kpa kdm kdn khh khn hf) := D_eq hD MW_set_9
        refine lv_aload_n hx hb dX3_day_72 rfl (lv_at hl 0 rfl) ?_
        refine va_get (D := D) (ci := 3) (v := .int (nI (td + 1))) (C := RX3) (T := TX3) (N := 32) hx hb hg us_X3 hown hK.1 hP 0 MW_g0 rfl 6 (by decide) (hg _ gm_407) (fun _ h9 => h9) rfl dX3_day_73 ?_
        subst hAe
        exact wr_i (w1 := fun (u : (Nat → Int32) × (Nat → Int32) × Nat) => MW cI cB b st n u.2.2 nd nh pl bs kd u.1 bo u.2.1 dm dn hh hn pg sv sd ik ks ktd knd knh kbs kag kbo kpa kdm kdn khh khn hf) hx hb hr hlocks hS (groF kd ag n, paF ag pa td n, td + 1) (by rw [show i = n by omega] at hP; exact hP) dX3_day_76 (by unfold dayF; rw [if_neg c_4, if_neg c_16])
      · skip
        refine lv_aload_n hx hb dX3_day_32 rfl (lv_at hl 0 rfl) ?_
        refine va_get (D := D) (ci := 3) (v := .ref (b 4)) (C := RX3) (T := TX3) (N := 32) hx hb hg us_X3 hown hK.1 hP 0 MW_g0 rfl 5 (by decide) (hg _ gm_406) (fun _ h9 => h9) rfl dX3_day_33 ?_
        refine lv_bipush (v := (nI 6)) hx hb dX3_day_36 (by decide) ?_
        refine lv_aload_n hx hb dX3_day_38 rfl (lv_at hl 0 rfl) ?_
        refine va_get (D := D) (ci := 3) (v := .int (nI td)) (C := RX3) (T := TX3) (N := 32) hx hb hg us_X3 hown hK.1 hP 0 MW_g0 rfl 6 (by decide) (hg _ gm_407) (fun _ h9 => h9) rfl dX3_day_39 ?_
        refine nv_imul hx hb dX3_day_42 ?_
        refine lv_iload_n hx hb dX3_day_43 rfl (lv_at hl 1 rfl) ?_
        refine nv_iadd hx hb dX3_day_44 ?_
        refine lv_aload_n hx hb dX3_day_45 rfl (lv_at hl 0 rfl) ?_
        refine va_get (D := D) (ci := 3) (v := .ref (b 2)) (C := RX3) (T := TX3) (N := 32) hx hb hg us_X3 hown hK.1 hP 0 MW_g0 rfl 3 (by decide) (hg _ gm_404) (fun _ h9 => h9) rfl dX3_day_46 ?_
        refine lv_iload_n hx hb dX3_day_49 rfl (lv_at hl 1 rfl) ?_
        refine nv_iald hx hb hK.1 hP 2 0 MW_g2 rfl (by omega) (by omega) dX3_day_50 ?_
        refine nv_iast hx hb hK.1 hP hD hS 4 0 MW_g4 rfl (by omega) (by omega) dX3_day_51 (fun H locs hP hD hS => ?_)
        have hP : va_P D vwCl (MW cI cB b st n td nd nh pl bs kd ag bo (upd (paF ag pa td i) (6 * td + i) (ag i)) dm dn hh hn pg sv sd ik ks ktd knd knh kbs kag kbo kpa kdm kdn khh khn hf) H := P_eq hP MW_set_10
        have hD : va_D A (MW cI cB b st n td nd nh pl bs kd ag bo (upd (paF ag pa td i) (6 * td + i) (ag i)) dm dn hh hn pg sv sd ik ks ktd knd knh kbs kag kbo kpa kdm kdn khh khn hf) := D_eq hD MW_set_10
        have e_2 : upd (paF ag pa td i) (6 * td + i) (ag i) = paF ag pa td (i + 1) := pa_s rfl
        rw [e_2] at hP hD
        have hP : va_P D vwCl (MW cI cB b st n td nd nh pl bs kd ag bo (paF ag pa td (i + 1)) dm dn hh hn pg sv sd ik ks ktd knd knh kbs kag kbo kpa kdm kdn khh khn hf) H := hP
        have hD : va_D A (MW cI cB b st n td nd nh pl bs kd ag bo (paF ag pa td (i + 1)) dm dn hh hn pg sv sd ik ks ktd knd knh kbs kag kbo kpa kdm kdn khh khn hf) := hD
        refine lv_iinc (v := (nI (i + 1))) (lv' := [(1, .int (nI (i + 1))), (0, .ref (b 0))]) hx hb dX3_day_52 hl (k := 1) rfl (nI_i1 _) (by decide) rfl (fun ls hl => ?_)
        refine lv_goto (tgt := 24) hx hb dX3_day_55 (by decide) ?_
        exact ih_24 () _ _ _ (by omega) (trivial) (lv_sub hl [1, 0] rfl) hP (hD.addr (MW_addr.trans MW_addr.symm)) hS
    · skip
      refine lv_bipush (v := (-104)) hx hb dX3_day_19 (by decide) ?_
      subst hAe
      exact wr_i (w1 := fun (u : (Nat → Int32) × (Nat → Int32) × Nat) => MW cI cB b st n u.2.2 nd nh pl bs kd u.1 bo u.2.1 dm dn hh hn pg sv sd ik ks ktd knd knh kbs kag kbo kpa kdm kdn khh khn hf) hx hb hr hlocks hS (ag, pa, td) hP dX3_day_21 (by unfold dayF; rw [if_neg c_4, if_pos c_16])
  · skip
    refine lv_bipush (v := (-103)) hx hb dX3_day_7 (by decide) ?_
    subst hAe
    exact wr_i (w1 := fun (u : (Nat → Int32) × (Nat → Int32) × Nat) => MW cI cB b st n u.2.2 nd nh pl bs kd u.1 bo u.2.1 dm dn hh hn pg sv sd ik ks ktd knd knh kbs kag kbo kpa kdm kdn khh khn hf) hx hb hr hlocks hS (ag, pa, td) hP dX3_day_9 ((if_pos c_4).symm)
abbrev rm_X3_debt : Room := { frames := 1, cells := 0, slots := 0, locals := 22 }
theorem MW_set_11 {cI cB : ClassId} {b : Nat → Nat} {st n td nd nh pl : Nat} {bs : Int32} {kd ag bo pa dm dn hh hn pg sv : Nat → Int32} {sd : Int64} {ik : Int32} {ks ktd knd knh : Nat} {kbs : Int32} {kag kbo kpa kdm kdn khh khn : Nat → Int32} {hf : Int64} {z0 : Nat → Int32} : List.set (MW cI cB b st n td nd nh pl bs kd ag bo pa dm dn hh hn pg sv sd ik ks ktd knd knh kbs kag kbo kpa kdm kdn khh khn hf) 5 (b 5, .inl (cI, 6, .inl z0)) = MW cI cB b st n td nd nh pl bs kd ag bo pa z0 dn hh hn pg sv sd ik ks ktd knd knh kbs kag kbo kpa kdm kdn khh khn hf := rfl
theorem MW_set_12 {cI cB : ClassId} {b : Nat → Nat} {st n td nd nh pl : Nat} {bs : Int32} {kd ag bo pa dm dn hh hn pg sv : Nat → Int32} {sd : Int64} {ik : Int32} {ks ktd knd knh : Nat} {kbs : Int32} {kag kbo kpa kdm kdn khh khn : Nat → Int32} {hf : Int64} {z0 : Nat → Int32} : List.set (MW cI cB b st n td nd nh pl bs kd ag bo pa dm dn hh hn pg sv sd ik ks ktd knd knh kbs kag kbo kpa kdm kdn khh khn hf) 6 (b 6, .inl (cI, 6, .inl z0)) = MW cI cB b st n td nd nh pl bs kd ag bo pa dm z0 hh hn pg sv sd ik ks ktd knd knh kbs kag kbo kpa kdm kdn khh khn hf := rfl
set_option maxRecDepth 100000 in
set_option maxHeartbeats 4000000 in
theorem c_X3_debt (l : Launch) (D : va_G) (cI cB : ClassId) (aS : Nat) (b : Nat → Nat) (st n td nd nh pl : Nat) (bs : Int32) (kd ag bo pa dm dn hh hn pg sv : Nat → Int32) (sd : Int64) (ik : Int32) (ks ktd knd knh : Nat) (kbs : Int32) (kag kbo kpa kdm kdn khh khn : Nat → Int32) (hf : Int64) (x y : Int32) (hD0 : va_D (fun _ => True) (MW cI cB b st n td nd nh pl bs kd ag bo pa dm dn hh hn pg sv sd ik ks ktd knd knh kbs kag kbo kpa kdm kdn khh khn hf)) (qnd : nd ≤ 6) (hn6 : n ≤ 6) : Met l yX3_debt (mw yX3_debt cX3_debt 3 (some .int)) rm_X3_debt (RP D cI cB aS (MW cI cB b st n td nd nh pl bs kd ag bo pa dm dn hh hn pg sv sd ik ks ktd knd knh kbs kag kbo kpa kdm kdn khh khn hf) [.ref (b 0), .int x, .int y]) (wq mkI (MW cI cB b st n td nd nh pl bs kd ag bo pa dm dn hh hn pg sv sd ik ks ktd knd knh kbs kag kbo kpa kdm kdn khh khn hf) (fun (u : (Nat → Int32) × (Nat → Int32) × Nat) => MW cI cB b st n td u.2.2 nh pl bs kd ag bo pa u.1 u.2.1 hh hn pg sv sd ik ks ktd knd knh kbs kag kbo kpa kdm kdn khh khn hf) D (fun (r : Int32) (u : (Nat → Int32) × (Nat → Int32) × Nat) => (r, u) = debF n nd dm dn x y)) 0 0 (inW (MW cI cB b st n td nd nh pl bs kd ag bo pa dm dn hh hn pg sv sd ik ks ktd knd knh kbs kag kbo kpa kdm kdn khh khn hf)) := by
  refine met_of (by decide) (Nat.le_of_ble_eq_true rfl) ?_
  intro p e s m below meth c ls hx hb hr hml hown hg hlocks hin hK hP hl
  have hown : s.vm.findClass RX3 = some m.cls := hown
  have hl : lv_has ls 3 [(0, .ref (b 0)), (1, .int x), (2, .int y)] := hl
  have hD := hD0.here
  have hS0 : va_S (inW (MW cI cB b st n td nd nh pl bs kd ag bo pa dm dn hh hn pg sv sd ik ks ktd knd knh kbs kag kbo kpa kdm kdn khh khn hf)) s.heap s.heap [] := va_S.rf
  obtain ⟨H, hH⟩ : ∃ H, H = s.heap := ⟨_, rfl⟩
  have hS : va_S (inW (MW cI cB b st n td nd nh pl bs kd ag bo pa dm dn hh hn pg sv sd ik ks ktd knd knh kbs kag kbo kpa kdm kdn khh khn hf)) s.heap H [] := by rw [hH]; exact hS0
  clear hS0
  rw [← hH] at hP ⊢
  generalize hAe : inW (MW cI cB b st n td nd nh pl bs kd ag bo pa dm dn hh hn pg sv sd ik ks ktd knd knh kbs kag kbo kpa kdm kdn khh khn hf) = A at hD hS ⊢
  refine lv_iload_n hx hb dX3_debt_0 rfl (lv_at hl 1 rfl) ?_
  refine lv_iconst (v := (nI 1)) hx hb dX3_debt_1 (by decide) ?_
  refine lv_bipush (v := (nI 9)) hx hb dX3_debt_2 (by decide) ?_
  refine rdS (As := [.int x, .int (nI 1), .int (nI 9)]) (rest := []) hx hb hml hown hg (c_X3_within l D cI cB aS x (nI 1) (nI 9)) gm_469 sf_X3_within ⟨Nat.le_of_ble_eq_true rfl, Nat.le_of_ble_eq_true rfl⟩ ⟨rfl, rfl⟩ ⟨Nat.zero_le _, Nat.zero_le _⟩ (RP.preS hK (fun k q h => by simp at h)) rfl hl.1 rfl (Nat.le_of_ble_eq_true rfl) dX3_debt_4 ?_
  refine bv_if_eq (tgt := 20) hx hb dX3_debt_7 (by decide) (fun c_7 => ?_) (fun c_7 => ?_)
  · skip
    refine lv_bipush (v := (-102)) hx hb dX3_debt_20 (by decide) ?_
    subst hAe
    exact wr_i (w1 := fun (u : (Nat → Int32) × (Nat → Int32) × Nat) => MW cI cB b st n td u.2.2 nh pl bs kd ag bo pa u.1 u.2.1 hh hn pg sv sd ik ks ktd knd knh kbs kag kbo kpa kdm kdn khh khn hf) hx hb hr hlocks hS (dm, dn, nd) hP dX3_debt_22 ((if_neg (fun q => c_7 q.1)).symm)
  · skip
    refine lv_iload_n hx hb dX3_debt_10 rfl (lv_at hl 2 rfl) ?_
    refine lv_iconst (v := (nI 0)) hx hb dX3_debt_11 (by decide) ?_
    refine lv_bipush (v := (nI 99)) hx hb dX3_debt_12 (by decide) ?_
    refine rdS (As := [.int y, .int (nI 0), .int (nI 99)]) (rest := []) hx hb hml hown hg (c_X3_within l D cI cB aS y (nI 0) (nI 99)) gm_469 sf_X3_within ⟨Nat.le_of_ble_eq_true rfl, Nat.le_of_ble_eq_true rfl⟩ ⟨rfl, rfl⟩ ⟨Nat.zero_le _, Nat.zero_le _⟩ (RP.preS hK (fun k q h => by simp at h)) rfl hl.1 rfl (Nat.le_of_ble_eq_true rfl) dX3_debt_14 ?_
    refine bv_if_ne (tgt := 23) hx hb dX3_debt_17 (by decide) (fun c_17 => ?_) (fun c_17 => ?_)
    · skip
      refine lv_aload_n hx hb dX3_debt_23 rfl (lv_at hl 0 rfl) ?_
      refine va_get (D := D) (ci := 3) (v := .int (nI n)) (C := RX3) (T := TX3) (N := 32) hx hb hg us_X3 hown hK.1 hP 0 MW_g0 rfl 1 (by decide) (hg _ gm_402) (fun _ h9 => h9) rfl dX3_debt_24 ?_
      refine nv_if_ne (tgt := 33) hx hb dX3_debt_27 (by omega) (by decide) (fun c_27 => ?_) (fun c_27 => ?_)
      · skip
        refine lv_aload_n hx hb dX3_debt_33 rfl (lv_at hl 0 rfl) ?_
        refine va_get (D := D) (ci := 3) (v := .int (nI nd)) (C := RX3) (T := TX3) (N := 32) hx hb hg us_X3 hown hK.1 hP 0 MW_g0 rfl 8 (by decide) (hg _ gm_409) (fun _ h9 => h9) rfl dX3_debt_34 ?_
        refine lv_bipush (v := (nI 6)) hx hb dX3_debt_37 (by decide) ?_
        refine nv_icmp_ne (tgt := 45) hx hb dX3_debt_39 (by omega) (by omega) (by decide) (fun c_39 => ?_) (fun c_39 => ?_)
        · skip
          refine lv_aload_n hx hb dX3_debt_45 rfl (lv_at hl 0 rfl) ?_
          refine va_get (D := D) (ci := 3) (v := .ref (b 5)) (C := RX3) (T := TX3) (N := 32) hx hb hg us_X3 hown hK.1 hP 0 MW_g0 rfl 9 (by decide) (hg _ gm_410) (fun _ h9 => h9) rfl dX3_debt_46 ?_
          refine lv_aload_n hx hb dX3_debt_49 rfl (lv_at hl 0 rfl) ?_
          refine va_get (D := D) (ci := 3) (v := .int (nI nd)) (C := RX3) (T := TX3) (N := 32) hx hb hg us_X3 hown hK.1 hP 0 MW_g0 rfl 8 (by decide) (hg _ gm_409) (fun _ h9 => h9) rfl dX3_debt_50 ?_
          refine lv_iload_n hx hb dX3_debt_53 rfl (lv_at hl 1 rfl) ?_
          refine nv_iast hx hb hK.1 hP hD hS 5 0 MW_g5 rfl (by omega) (by omega) dX3_debt_54 (fun H locs hP hD hS => ?_)
          have hP : va_P D vwCl (MW cI cB b st n td nd nh pl bs kd ag bo pa (upd dm nd x) dn hh hn pg sv sd ik ks ktd knd knh kbs kag kbo kpa kdm kdn khh khn hf) H := P_eq hP MW_set_11
          have hD : va_D A (MW cI cB b st n td nd nh pl bs kd ag bo pa (upd dm nd x) dn hh hn pg sv sd ik ks ktd knd knh kbs kag kbo kpa kdm kdn khh khn hf) := D_eq hD MW_set_11
          refine lv_aload_n hx hb dX3_debt_55 rfl (lv_at hl 0 rfl) ?_
          refine va_get (D := D) (ci := 3) (v := .ref (b 6)) (C := RX3) (T := TX3) (N := 32) hx hb hg us_X3 hown hK.1 hP 0 MW_g0 rfl 10 (by decide) (hg _ gm_411) (fun _ h9 => h9) rfl dX3_debt_56 ?_
          refine lv_aload_n hx hb dX3_debt_59 rfl (lv_at hl 0 rfl) ?_
          refine va_get (D := D) (ci := 3) (v := .int (nI nd)) (C := RX3) (T := TX3) (N := 32) hx hb hg us_X3 hown hK.1 hP 0 MW_g0 rfl 8 (by decide) (hg _ gm_409) (fun _ h9 => h9) rfl dX3_debt_60 ?_
          refine lv_iload_n hx hb dX3_debt_63 rfl (lv_at hl 2 rfl) ?_
          refine nv_iast hx hb hK.1 hP hD hS 6 0 MW_g6 rfl (by omega) (by omega) dX3_debt_64 (fun H locs hP hD hS => ?_)
          have hP : va_P D vwCl (MW cI cB b st n td nd nh pl bs kd ag bo pa (upd dm nd x) (upd dn nd y) hh hn pg sv sd ik ks ktd knd knh kbs kag kbo kpa kdm kdn khh khn hf) H := P_eq hP MW_set_12
          have hD : va_D A (MW cI cB b st n td nd nh pl bs kd ag bo pa (upd dm nd x) (upd dn nd y) hh hn pg sv sd ik ks ktd knd knh kbs kag kbo kpa kdm kdn khh khn hf) := D_eq hD MW_set_12
          refine lv_aload_n hx hb dX3_debt_65 rfl (lv_at hl 0 rfl) ?_
          refine lv_dup hx hb dX3_debt_66 rfl ?_
          refine va_get (D := D) (ci := 3) (v := .int (nI nd)) (C := RX3) (T := TX3) (N := 32) hx hb hg us_X3 hown hK.1 hP 0 MW_g0 rfl 8 (by decide) (hg _ gm_409) (fun _ h9 => h9) rfl dX3_debt_67 ?_
          refine lv_iconst (v := (nI 1)) hx hb dX3_debt_70 (by decide) ?_
          refine nv_iadd hx hb dX3_debt_71 ?_
          refine va_put (D := D) (ci := 3) (v := .int (nI (nd + 1))) (ty := .int) (C := RX3) (T := TX3) (N := 32) hx hb hg us_X3 tyX3 tyX3_ok nmX3 hown hK.1 hP hD hS 0 MW_g0 rfl 8 (by decide) (hg _ gm_409) (fun _ h9 => h9) rfl (by decide +kernel) rfl rfl (Nat.le_of_ble_eq_true rfl) dX3_debt_72 (fun H locs hP hD hS => ?_)
          have hP : va_P D vwCl (MW cI cB b st n td (nd + 1) nh pl bs kd ag bo pa (upd dm nd x) (upd dn nd y) hh hn pg sv sd ik ks ktd knd knh kbs kag kbo kpa kdm kdn khh khn hf) H := P_eq hP MW_set_3
          have hD : va_D A (MW cI cB b st n td (nd + 1) nh pl bs kd ag bo pa (upd dm nd x) (upd dn nd y) hh hn pg sv sd ik ks ktd knd knh kbs kag kbo kpa kdm kdn khh khn hf) := D_eq hD MW_set_3
          refine lv_aload_n hx hb dX3_debt_75 rfl (lv_at hl 0 rfl) ?_
          refine va_get (D := D) (ci := 3) (v := .int (nI (nd + 1))) (C := RX3) (T := TX3) (N := 32) hx hb hg us_X3 hown hK.1 hP 0 MW_g0 rfl 8 (by decide) (hg _ gm_409) (fun _ h9 => h9) rfl dX3_debt_76 ?_
          subst hAe
          exact wr_i (w1 := fun (u : (Nat → Int32) × (Nat → Int32) × Nat) => MW cI cB b st n td u.2.2 nh pl bs kd ag bo pa u.1 u.2.1 hh hn pg sv sd ik ks ktd knd knh kbs kag kbo kpa kdm kdn khh khn hf) hx hb hr hlocks hS (upd dm nd x, upd dn nd y, nd + 1) hP dX3_debt_79 (by unfold debF; rw [if_pos ⟨c_7, c_17⟩, if_neg c_27, if_neg c_39])
        · skip
          refine lv_bipush (v := (-104)) hx hb dX3_debt_42 (by decide) ?_
          subst hAe
          exact wr_i (w1 := fun (u : (Nat → Int32) × (Nat → Int32) × Nat) => MW cI cB b st n td u.2.2 nh pl bs kd ag bo pa u.1 u.2.1 hh hn pg sv sd ik ks ktd knd knh kbs kag kbo kpa kdm kdn khh khn hf) hx hb hr hlocks hS (dm, dn, nd) hP dX3_debt_44 (by unfold debF; rw [if_pos ⟨c_7, c_17⟩, if_neg c_27, if_pos c_39])
      · skip
        refine lv_bipush (v := (-103)) hx hb dX3_debt_30 (by decide) ?_
        subst hAe
        exact wr_i (w1 := fun (u : (Nat → Int32) × (Nat → Int32) × Nat) => MW cI cB b st n td u.2.2 nh pl bs kd ag bo pa u.1 u.2.1 hh hn pg sv sd ik ks ktd knd knh kbs kag kbo kpa kdm kdn khh khn hf) hx hb hr hlocks hS (dm, dn, nd) hP dX3_debt_32 (by unfold debF; rw [if_pos ⟨c_7, c_17⟩, if_pos c_27])
    · skip
      refine lv_bipush (v := (-102)) hx hb dX3_debt_20 (by decide) ?_
      subst hAe
      exact wr_i (w1 := fun (u : (Nat → Int32) × (Nat → Int32) × Nat) => MW cI cB b st n td u.2.2 nh pl bs kd ag bo pa u.1 u.2.1 hh hn pg sv sd ik ks ktd knd knh kbs kag kbo kpa kdm kdn khh khn hf) hx hb hr hlocks hS (dm, dn, nd) hP dX3_debt_22 ((if_neg (fun q => c_17 q.2)).symm)
abbrev rm_X3_hear : Room := { frames := 2, cells := 0, slots := 0, locals := 43 }
theorem MW_set_13 {cI cB : ClassId} {b : Nat → Nat} {st n td nd nh pl : Nat} {bs : Int32} {kd ag bo pa dm dn hh hn pg sv : Nat → Int32} {sd : Int64} {ik : Int32} {ks ktd knd knh : Nat} {kbs : Int32} {kag kbo kpa kdm kdn khh khn : Nat → Int32} {hf : Int64} {z0 : Nat → Int32} : List.set (MW cI cB b st n td nd nh pl bs kd ag bo pa dm dn hh hn pg sv sd ik ks ktd knd knh kbs kag kbo kpa kdm kdn khh khn hf) 7 (b 7, .inl (cI, 6, .inl z0)) = MW cI cB b st n td nd nh pl bs kd ag bo pa dm dn z0 hn pg sv sd ik ks ktd knd knh kbs kag kbo kpa kdm kdn khh khn hf := rfl
theorem MW_set_14 {cI cB : ClassId} {b : Nat → Nat} {st n td nd nh pl : Nat} {bs : Int32} {kd ag bo pa dm dn hh hn pg sv : Nat → Int32} {sd : Int64} {ik : Int32} {ks ktd knd knh : Nat} {kbs : Int32} {kag kbo kpa kdm kdn khh khn : Nat → Int32} {hf : Int64} {z0 : Nat → Int32} : List.set (MW cI cB b st n td nd nh pl bs kd ag bo pa dm dn hh hn pg sv sd ik ks ktd knd knh kbs kag kbo kpa kdm kdn khh khn hf) 8 (b 8, .inl (cI, 6, .inl z0)) = MW cI cB b st n td nd nh pl bs kd ag bo pa dm dn hh z0 pg sv sd ik ks ktd knd knh kbs kag kbo kpa kdm kdn khh khn hf := rfl
set_option maxRecDepth 100000 in
set_option maxHeartbeats 4000000 in
theorem c_X3_hear (l : Launch) (D : va_G) (cI cB : ClassId) (aS : Nat) (b : Nat → Nat) (st n td nd nh pl : Nat) (bs : Int32) (kd ag bo pa dm dn hh hn pg sv : Nat → Int32) (sd : Int64) (ik : Int32) (ks ktd knd knh : Nat) (kbs : Int32) (kag kbo kpa kdm kdn khh khn : Nat → Int32) (hf : Int64) (x y : Int32) (hD0 : va_D (fun _ => True) (MW cI cB b st n td nd nh pl bs kd ag bo pa dm dn hh hn pg sv sd ik ks ktd knd knh kbs kag kbo kpa kdm kdn khh khn hf)) (qnh : nh ≤ 6) (hn6 : n ≤ 6) : Met l yX3_hear (mw yX3_hear cX3_hear 3 (some .int)) rm_X3_hear (RP D cI cB aS (MW cI cB b st n td nd nh pl bs kd ag bo pa dm dn hh hn pg sv sd ik ks ktd knd knh kbs kag kbo kpa kdm kdn khh khn hf) [.ref (b 0), .int x, .int y]) (wq mkI (MW cI cB b st n td nd nh pl bs kd ag bo pa dm dn hh hn pg sv sd ik ks ktd knd knh kbs kag kbo kpa kdm kdn khh khn hf) (fun (u : (Nat → Int32) × (Nat → Int32) × Nat) => MW cI cB b st n td nd u.2.2 pl bs kd ag bo pa dm dn u.1 u.2.1 pg sv sd ik ks ktd knd knh kbs kag kbo kpa kdm kdn khh khn hf) D (fun (r : Int32) (u : (Nat → Int32) × (Nat → Int32) × Nat) => (r, u) = heaF n nh hh hn x y)) 0 0 (inW (MW cI cB b st n td nd nh pl bs kd ag bo pa dm dn hh hn pg sv sd ik ks ktd knd knh kbs kag kbo kpa kdm kdn khh khn hf)) := by
  refine met_of (by decide) (Nat.le_of_ble_eq_true rfl) ?_
  intro p e s m below meth c ls hx hb hr hml hown hg hlocks hin hK hP hl
  have hown : s.vm.findClass RX3 = some m.cls := hown
  have hl : lv_has ls 3 [(0, .ref (b 0)), (1, .int x), (2, .int y)] := hl
  have hD := hD0.here
  have hS0 : va_S (inW (MW cI cB b st n td nd nh pl bs kd ag bo pa dm dn hh hn pg sv sd ik ks ktd knd knh kbs kag kbo kpa kdm kdn khh khn hf)) s.heap s.heap [] := va_S.rf
  obtain ⟨H, hH⟩ : ∃ H, H = s.heap := ⟨_, rfl⟩
  have hS : va_S (inW (MW cI cB b st n td nd nh pl bs kd ag bo pa dm dn hh hn pg sv sd ik ks ktd knd knh kbs kag kbo kpa kdm kdn khh khn hf)) s.heap H [] := by rw [hH]; exact hS0
  clear hS0
  rw [← hH] at hP ⊢
  generalize hAe : inW (MW cI cB b st n td nd nh pl bs kd ag bo pa dm dn hh hn pg sv sd ik ks ktd knd knh kbs kag kbo kpa kdm kdn khh khn hf) = A at hD hS ⊢
  refine lv_aload_n hx hb dX3_hear_0 rfl (lv_at hl 0 rfl) ?_
  refine lv_iload_n hx hb dX3_hear_1 rfl (lv_at hl 1 rfl) ?_
  refine rdV (As := [.int x]) (rest := []) hx hb hml hown hg (c_X3_isHouse l D cI cB aS _ st n td nd nh pl bs kd ag bo pa dm dn hh hn pg sv sd ik ks ktd knd knh kbs kag kbo kpa kdm kdn khh khn hf x (by first | assumption | omega)) gm_497 vf_X3_isHouse ⟨Nat.le_of_ble_eq_true rfl, Nat.le_of_ble_eq_true rfl⟩ ⟨rfl, rfl⟩ ⟨Nat.zero_le _, Nat.zero_le _⟩ (RP.preV hK hP (q0 := 0) (ci := 3) MW_g0 rfl) rfl hl.1 rfl (Nat.le_of_ble_eq_true rfl) dX3_hear_2 ?_
  refine bv_if_ne (tgt := 11) hx hb dX3_hear_5 (by decide) (fun c_5 => ?_) (fun c_5 => ?_)
  · skip
    refine lv_iload_n hx hb dX3_hear_11 rfl (lv_at hl 2 rfl) ?_
    refine lv_iconst (v := (nI 0)) hx hb dX3_hear_12 (by decide) ?_
    refine lv_bipush (v := (nI 99)) hx hb dX3_hear_13 (by decide) ?_
    refine rdS (As := [.int y, .int (nI 0), .int (nI 99)]) (rest := []) hx hb hml hown hg (c_X3_within l D cI cB aS y (nI 0) (nI 99)) gm_469 sf_X3_within ⟨Nat.le_of_ble_eq_true rfl, Nat.le_of_ble_eq_true rfl⟩ ⟨rfl, rfl⟩ ⟨Nat.zero_le _, Nat.zero_le _⟩ (RP.preS hK (fun k q h => by simp at h)) rfl hl.1 rfl (Nat.le_of_ble_eq_true rfl) dX3_hear_15 ?_
    refine bv_if_ne (tgt := 24) hx hb dX3_hear_18 (by decide) (fun c_18 => ?_) (fun c_18 => ?_)
    · skip
      refine lv_aload_n hx hb dX3_hear_24 rfl (lv_at hl 0 rfl) ?_
      refine va_get (D := D) (ci := 3) (v := .int (nI nh)) (C := RX3) (T := TX3) (N := 32) hx hb hg us_X3 hown hK.1 hP 0 MW_g0 rfl 11 (by decide) (hg _ gm_412) (fun _ h9 => h9) rfl dX3_hear_25 ?_
      refine lv_bipush (v := (nI 6)) hx hb dX3_hear_28 (by decide) ?_
      refine nv_icmp_ne (tgt := 36) hx hb dX3_hear_30 (by omega) (by omega) (by decide) (fun c_30 => ?_) (fun c_30 => ?_)
      · skip
        refine lv_aload_n hx hb dX3_hear_36 rfl (lv_at hl 0 rfl) ?_
        refine va_get (D := D) (ci := 3) (v := .ref (b 7)) (C := RX3) (T := TX3) (N := 32) hx hb hg us_X3 hown hK.1 hP 0 MW_g0 rfl 12 (by decide) (hg _ gm_413) (fun _ h9 => h9) rfl dX3_hear_37 ?_
        refine lv_aload_n hx hb dX3_hear_40 rfl (lv_at hl 0 rfl) ?_
        refine va_get (D := D) (ci := 3) (v := .int (nI nh)) (C := RX3) (T := TX3) (N := 32) hx hb hg us_X3 hown hK.1 hP 0 MW_g0 rfl 11 (by decide) (hg _ gm_412) (fun _ h9 => h9) rfl dX3_hear_41 ?_
        refine lv_iload_n hx hb dX3_hear_44 rfl (lv_at hl 1 rfl) ?_
        refine nv_iast hx hb hK.1 hP hD hS 7 0 MW_g7 rfl (by omega) (by omega) dX3_hear_45 (fun H locs hP hD hS => ?_)
        have hP : va_P D vwCl (MW cI cB b st n td nd nh pl bs kd ag bo pa dm dn (upd hh nh x) hn pg sv sd ik ks ktd knd knh kbs kag kbo kpa kdm kdn khh khn hf) H := P_eq hP MW_set_13
        have hD : va_D A (MW cI cB b st n td nd nh pl bs kd ag bo pa dm dn (upd hh nh x) hn pg sv sd ik ks ktd knd knh kbs kag kbo kpa kdm kdn khh khn hf) := D_eq hD MW_set_13
        refine lv_aload_n hx hb dX3_hear_46 rfl (lv_at hl 0 rfl) ?_
        refine va_get (D := D) (ci := 3) (v := .ref (b 8)) (C := RX3) (T := TX3) (N := 32) hx hb hg us_X3 hown hK.1 hP 0 MW_g0 rfl 13 (by decide) (hg _ gm_414) (fun _ h9 => h9) rfl dX3_hear_47 ?_
        refine lv_aload_n hx hb dX3_hear_50 rfl (lv_at hl 0 rfl) ?_
        refine va_get (D := D) (ci := 3) (v := .int (nI nh)) (C := RX3) (T := TX3) (N := 32) hx hb hg us_X3 hown hK.1 hP 0 MW_g0 rfl 11 (by decide) (hg _ gm_412) (fun _ h9 => h9) rfl dX3_hear_51 ?_
        refine lv_iload_n hx hb dX3_hear_54 rfl (lv_at hl 2 rfl) ?_
        refine nv_iast hx hb hK.1 hP hD hS 8 0 MW_g8 rfl (by omega) (by omega) dX3_hear_55 (fun H locs hP hD hS => ?_)
        have hP : va_P D vwCl (MW cI cB b st n td nd nh pl bs kd ag bo pa dm dn (upd hh nh x) (upd hn nh y) pg sv sd ik ks ktd knd knh kbs kag kbo kpa kdm kdn khh khn hf) H := P_eq hP MW_set_14
        have hD : va_D A (MW cI cB b st n td nd nh pl bs kd ag bo pa dm dn (upd hh nh x) (upd hn nh y) pg sv sd ik ks ktd knd knh kbs kag kbo kpa kdm kdn khh khn hf) := D_eq hD MW_set_14
        refine lv_aload_n hx hb dX3_hear_56 rfl (lv_at hl 0 rfl) ?_
        refine lv_dup hx hb dX3_hear_57 rfl ?_
        refine va_get (D := D) (ci := 3) (v := .int (nI nh)) (C := RX3) (T := TX3) (N := 32) hx hb hg us_X3 hown hK.1 hP 0 MW_g0 rfl 11 (by decide) (hg _ gm_412) (fun _ h9 => h9) rfl dX3_hear_58 ?_
        refine lv_iconst (v := (nI 1)) hx hb dX3_hear_61 (by decide) ?_
        refine nv_iadd hx hb dX3_hear_62 ?_
        refine va_put (D := D) (ci := 3) (v := .int (nI (nh + 1))) (ty := .int) (C := RX3) (T := TX3) (N := 32) hx hb hg us_X3 tyX3 tyX3_ok nmX3 hown hK.1 hP hD hS 0 MW_g0 rfl 11 (by decide) (hg _ gm_412) (fun _ h9 => h9) rfl (by decide +kernel) rfl rfl (Nat.le_of_ble_eq_true rfl) dX3_hear_63 (fun H locs hP hD hS => ?_)
        have hP : va_P D vwCl (MW cI cB b st n td nd (nh + 1) pl bs kd ag bo pa dm dn (upd hh nh x) (upd hn nh y) pg sv sd ik ks ktd knd knh kbs kag kbo kpa kdm kdn khh khn hf) H := P_eq hP MW_set_2
        have hD : va_D A (MW cI cB b st n td nd (nh + 1) pl bs kd ag bo pa dm dn (upd hh nh x) (upd hn nh y) pg sv sd ik ks ktd knd knh kbs kag kbo kpa kdm kdn khh khn hf) := D_eq hD MW_set_2
        refine lv_aload_n hx hb dX3_hear_66 rfl (lv_at hl 0 rfl) ?_
        refine va_get (D := D) (ci := 3) (v := .int (nI (nh + 1))) (C := RX3) (T := TX3) (N := 32) hx hb hg us_X3 hown hK.1 hP 0 MW_g0 rfl 11 (by decide) (hg _ gm_412) (fun _ h9 => h9) rfl dX3_hear_67 ?_
        subst hAe
        exact wr_i (w1 := fun (u : (Nat → Int32) × (Nat → Int32) × Nat) => MW cI cB b st n td nd u.2.2 pl bs kd ag bo pa dm dn u.1 u.2.1 pg sv sd ik ks ktd knd knh kbs kag kbo kpa kdm kdn khh khn hf) hx hb hr hlocks hS (upd hh nh x, upd hn nh y, nh + 1) hP dX3_hear_70 (by unfold heaF; rw [if_pos c_5, if_pos c_18, if_neg c_30])
      · skip
        refine lv_bipush (v := (-104)) hx hb dX3_hear_33 (by decide) ?_
        subst hAe
        exact wr_i (w1 := fun (u : (Nat → Int32) × (Nat → Int32) × Nat) => MW cI cB b st n td nd u.2.2 pl bs kd ag bo pa dm dn u.1 u.2.1 pg sv sd ik ks ktd knd knh kbs kag kbo kpa kdm kdn khh khn hf) hx hb hr hlocks hS (hh, hn, nh) hP dX3_hear_35 (by unfold heaF; rw [if_pos c_5, if_pos c_18, if_pos c_30])
    · skip
      refine lv_bipush (v := (-102)) hx hb dX3_hear_21 (by decide) ?_
      subst hAe
      exact wr_i (w1 := fun (u : (Nat → Int32) × (Nat → Int32) × Nat) => MW cI cB b st n td nd u.2.2 pl bs kd ag bo pa dm dn u.1 u.2.1 pg sv sd ik ks ktd knd knh kbs kag kbo kpa kdm kdn khh khn hf) hx hb hr hlocks hS (hh, hn, nh) hP dX3_hear_23 (by unfold heaF; rw [if_pos c_5, if_neg c_18])
  · skip
    refine lv_bipush (v := (-101)) hx hb dX3_hear_8 (by decide) ?_
    subst hAe
    exact wr_i (w1 := fun (u : (Nat → Int32) × (Nat → Int32) × Nat) => MW cI cB b st n td nd u.2.2 pl bs kd ag bo pa dm dn u.1 u.2.1 pg sv sd ik ks ktd knd knh kbs kag kbo kpa kdm kdn khh khn hf) hx hb hr hlocks hS (hh, hn, nh) hP dX3_hear_10 ((if_neg c_5).symm)
