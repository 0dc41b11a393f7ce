abbrev rm_L_number : Room := { frames := 0, cells := 0, slots := 0, locals := 0 }
set_option maxRecDepth 100000 in
set_option maxHeartbeats 4000000 in
theorem c_L_number (l : Launch) (D : va_G) (cI cB : ClassId) (aS : Nat) (k x : Int32)  : Met l yL_number (mw yL_number cL_number 2 (some .int)) rm_L_number (RP D cI cB aS ([]) [.int k, .int x]) (vp_Si (fun r => r = (numF k x))) 0 0 (fun _ => False) := by
  refine met_of (by decide) (Nat.le_of_ble_eq_true rfl) ?_
  intro p e s m below meth c ls hx hb hr hml hown hg hlocks hin hK hP hl
  have hown : s.vm.findClass RL = some m.cls := hown
  have hl : lv_has ls 2 [(0, .int k), (1, .int x)] := hl
  refine lv_iload_n hx hb dL_number_0 rfl (lv_at hl 0 rfl) ?_
  refine lv_iconst (v := (nI 1)) hx hb dL_number_1 (by decide) ?_
  refine lv_icmp_ne (tgt := 11) hx hb dL_number_2 (by decide) (fun c_2 => ?_) (fun c_2 => ?_)
  · skip
    refine lv_iload_n hx hb dL_number_11 rfl (lv_at hl 1 rfl) ?_
    exact rr_i hx hb hr hlocks dL_number_12 ((if_neg c_2).symm)
  · skip
    refine lv_iload_n hx hb dL_number_5 rfl (lv_at hl 1 rfl) ?_
    refine lv_iconst (v := (nI 2)) hx hb dL_number_6 (by decide) ?_
    refine lv_idiv hx hb dL_number_7 (by decide) ?_
    refine lv_goto (tgt := 12) hx hb dL_number_8 (by decide) ?_
    exact rr_i hx hb hr hlocks dL_number_12 ((if_pos c_2).symm)
abbrev rm_L_now : Room := { frames := 1, cells := 0, slots := 0, locals := 21 }
theorem sf_L_number : sfacts RL yL_number cL_number 2 (some .int) 2 := ⟨⟨rfl, by decide +kernel, by decide +kernel, by decide +kernel⟩, gm_316, gm_1, gm_317⟩
set_option maxRecDepth 100000 in
set_option maxHeartbeats 4000000 in
theorem c_L_now (l : Launch) (D : va_G) (cI cB : ClassId) (aS : Nat) (p0 : Nat) (wa : Nat → Int32) (k : Nat) (qk : k < 6) : Met l yL_now (mw yL_now cL_now 2 (some .int)) rm_L_now (RP D cI cB aS ([(p0, .inl (cI, 21, .inl wa))]) [.ref p0, .int (nI k)]) (vp_Si (fun r => r = (nwF wa k))) 0 0 (fun _ => False) := by
  refine met_of (by decide) (Nat.le_of_ble_eq_true rfl) ?_
  intro p e s m below meth c ls hx hb hr hml hown hg hlocks hin hK hP hl
  have hown : s.vm.findClass RL = some m.cls := hown
  have hl : lv_has ls 2 [(0, .ref p0), (1, .int (nI k))] := hl
  refine lv_aload_n hx hb dL_now_0 rfl (lv_at hl 0 rfl) ?_
  refine lv_iconst (v := (nI 3)) hx hb dL_now_1 (by decide) ?_
  refine lv_iconst (v := (nI 3)) hx hb dL_now_2 (by decide) ?_
  refine lv_iload_n hx hb dL_now_3 rfl (lv_at hl 1 rfl) ?_
  refine nv_imul hx hb dL_now_4 ?_
  refine nv_iadd hx hb dL_now_5 ?_
  refine nv_iald hx hb hK.1 hP 0 0 rfl rfl (by omega) (by omega) dL_now_6 ?_
  refine lv_aload_n hx hb dL_now_7 rfl (lv_at hl 0 rfl) ?_
  refine lv_iconst (v := (nI 4)) hx hb dL_now_8 (by decide) ?_
  refine lv_iconst (v := (nI 3)) hx hb dL_now_9 (by decide) ?_
  refine lv_iload_n hx hb dL_now_10 rfl (lv_at hl 1 rfl) ?_
  refine nv_imul hx hb dL_now_11 ?_
  refine nv_iadd hx hb dL_now_12 ?_
  refine nv_iald hx hb hK.1 hP 0 0 rfl rfl (by omega) (by omega) dL_now_13 ?_
  refine rdS (As := [.int (wa (3 + (3 * k))), .int (wa (4 + (3 * k)))]) (rest := []) hx hb hml hown hg (c_L_number l D cI cB aS (wa (3 + (3 * k))) (wa (4 + (3 * k)))) gm_315 sf_L_number ⟨Nat.le_of_ble_eq_true rfl, Nat.le_of_ble_eq_true rfl⟩ ⟨rfl, rfl⟩ ⟨Nat.zero_le _, Nat.zero_le _⟩ (RP.preS hK (fun k q h => by simp at h)) rfl hl.1 rfl (Nat.le_of_ble_eq_true rfl) dL_now_14 ?_
  exact rr_i hx hb hr hlocks dL_now_17 rfl
abbrev rm_L_then : Room := { frames := 2, cells := 0, slots := 0, locals := 42 }
theorem sf_L_now : sfacts RL yL_now cL_now 2 (some .int) 2 := ⟨⟨rfl, by decide +kernel, by decide +kernel, by decide +kernel⟩, gm_319, gm_1, gm_320⟩
set_option maxRecDepth 100000 in
set_option maxHeartbeats 4000000 in
theorem c_L_then (l : Launch) (D : va_G) (cI cB : ClassId) (aS : Nat) (p0 p2 : Nat) (wa : Nat → Int32) (ga : Nat → Int64) (td k d : Nat) (hw1 : wa 1 = nI td) (qk : k < 6) (qd : d ≤ td) (qt : td ≤ 30) : Met l yL_then (mw yL_then cL_then 4 (some .int)) rm_L_then (RP D cI cB aS ([(p0, .inl (cI, 21, .inl wa)), (p2, .inl (cB, 30, .inr (.inl ga)))]) [.ref p0, .ref p2, .int (nI k), .int (nI d)]) (vp_Si (fun r => r = (tnF wa ga td k d))) 0 0 (fun _ => False) := by
  refine met_of (by decide) (Nat.le_of_ble_eq_true rfl) ?_
  intro p e s m below meth c ls hx hb hr hml hown hg hlocks hin hK hP hl
  have hown : s.vm.findClass RL = some m.cls := hown
  have hl : lv_has ls 4 [(0, .ref p0), (1, .ref p2), (2, .int (nI k)), (3, .int (nI d))] := hl
  refine lv_iload_n hx hb dL_then_0 rfl (lv_at hl 3 rfl) ?_
  refine lv_aload_n hx hb dL_then_1 rfl (lv_at hl 0 rfl) ?_
  refine lv_iconst (v := (nI 1)) hx hb dL_then_2 (by decide) ?_
  refine nv_iald hx hb hK.1 hP 0 0 rfl rfl (by omega) (by omega) dL_then_3 ?_
  rw [show ((wa 1) : Int32) = (nI td) from hw1]
  refine nv_icmp_ne (tgt := 15) hx hb dL_then_4 (by omega) (by omega) (by decide) (fun c_4 => ?_) (fun c_4 => ?_)
  · skip
    refine lv_aload_n hx hb dL_then_15 rfl (lv_at hl 0 rfl) ?_
    refine lv_iconst (v := (nI 3)) hx hb dL_then_16 (by decide) ?_
    refine lv_iconst (v := (nI 3)) hx hb dL_then_17 (by decide) ?_
    refine lv_iload_n hx hb dL_then_18 rfl (lv_at hl 2 rfl) ?_
    refine nv_imul hx hb dL_then_19 ?_
    refine nv_iadd hx hb dL_then_20 ?_
    refine nv_iald hx hb hK.1 hP 0 0 rfl rfl (by omega) (by omega) dL_then_21 ?_
    refine lv_aload_n hx hb dL_then_22 rfl (lv_at hl 1 rfl) ?_
    refine lv_iload_n hx hb dL_then_23 rfl (lv_at hl 3 rfl) ?_
    refine nv_lald hx hb hK.1 hP 1 1 rfl rfl (by omega) (by omega) dL_then_24 ?_
    refine lv_bipush (v := (nI 7)) hx hb dL_then_25 (by decide) ?_
    refine lv_iload_n hx hb dL_then_27 rfl (lv_at hl 2 rfl) ?_
    refine nv_imul hx hb dL_then_28 ?_
    refine lv_lshr (v := (ga d) >>> ((nI (7 * k)).toInt64 &&& 63)) hx hb dL_then_29 rfl ?_
    refine lv_ldc2 hx hb hown (hg _ gm_324) dL_then_30 ?_
    refine lv_land hx hb dL_then_33 ?_
    refine lv_l2i (v := (((ga d) >>> ((nI (7 * k)).toInt64 &&& 63)) &&& (127 : Int64)).toInt32) hx hb dL_then_34 rfl ?_
    refine rdS (As := [.int (wa (3 + (3 * k))), .int ((((ga d) >>> ((nI (7 * k)).toInt64 &&& 63)) &&& (127 : Int64)).toInt32)]) (rest := []) hx hb hml hown hg (c_L_number l D cI cB aS (wa (3 + (3 * k))) ((((ga d) >>> ((nI (7 * k)).toInt64 &&& 63)) &&& (127 : Int64)).toInt32)) gm_315 sf_L_number ⟨Nat.le_of_ble_eq_true rfl, Nat.le_of_ble_eq_true rfl⟩ ⟨rfl, rfl⟩ ⟨Nat.zero_le _, Nat.zero_le _⟩ (RP.preS hK (fun k q h => by simp at h)) rfl hl.1 rfl (Nat.le_of_ble_eq_true rfl) dL_then_35 ?_
    exact rr_i hx hb hr hlocks dL_then_38 (by unfold tnF; rw [if_neg c_4]; rfl)
  · skip
    refine lv_aload_n hx hb dL_then_7 rfl (lv_at hl 0 rfl) ?_
    refine lv_iload_n hx hb dL_then_8 rfl (lv_at hl 2 rfl) ?_
    have hP_1 := hP.sub (ws' := [(p0, .inl (cI, 21, .inl wa))]) [0] rfl
    refine rdS (As := [.ref p0, .int (nI k)]) (rest := []) hx hb hml hown hg (c_L_now l D cI cB aS p0 wa k (by first | assumption | omega)) gm_318 sf_L_now ⟨Nat.le_of_ble_eq_true rfl, Nat.le_of_ble_eq_true rfl⟩ ⟨rfl, rfl⟩ ⟨Nat.zero_le _, Nat.zero_le _⟩ (RP.preS hK hP_1) rfl hl.1 rfl (Nat.le_of_ble_eq_true rfl) dL_then_9 ?_
    refine lv_goto (tgt := 38) hx hb dL_then_12 (by decide) ?_
    exact rr_i hx hb hr hlocks dL_then_38 (by unfold tnF; rw [if_pos c_4]; rfl)
abbrev rm_L_pass : Room := { frames := 0, cells := 0, slots := 0, locals := 0 }
set_option maxRecDepth 100000 in
set_option maxHeartbeats 4000000 in
theorem c_L_pass (l : Launch) (D : va_G) (cI cB : ClassId) (aS : Nat) (p0 : Nat) (wa : Nat → Int32) (n : Nat) (hD0 : va_D (fun _ => True) ([(p0, .inl (cI, 21, .inl wa))])) (hw0 : wa 0 = nI n) (hn6 : n ≤ 6) : Met l yL_pass (mw yL_pass cL_pass 2 none) rm_L_pass (RP D cI cB aS ([(p0, .inl (cI, 21, .inl wa))]) [.ref p0]) (wq mkV ([(p0, .inl (cI, 21, .inl wa))]) (fun (_ : Unit) => [(p0, .inl (cI, 21, .inl (psF wa n)))]) D (fun (_ : Unit) (_ : Unit) => True)) 0 0 (inW ([(p0, .inl (cI, 21, .inl wa))])) := by
  refine met_of (by decide) (Nat.le_of_ble_eq_true rfl) ?_
  intro p e s m below meth c ls hx hb hr hml hown hg hlocks hin hK hP hl
  have hown : s.vm.findClass RL = some m.cls := hown
  have hl : lv_has ls 2 [(0, .ref p0)] := hl
  have hD := hD0.here
  have hS0 : va_S (inW ([(p0, .inl (cI, 21, .inl wa))])) s.heap s.heap [] := va_S.rf
  obtain ⟨H, hH⟩ : ∃ H, H = s.heap := ⟨_, rfl⟩
  have hS : va_S (inW ([(p0, .inl (cI, 21, .inl wa))])) s.heap H [] := by rw [hH]; exact hS0
  clear hS0
  rw [← hH] at hP ⊢
  generalize hAe : inW ([(p0, .inl (cI, 21, .inl wa))]) = A at hD hS ⊢
  refine lv_iconst (v := (nI 0)) hx hb dL_pass_0 (by decide) ?_
  refine lv_istore_n (lv' := [(1, .int (nI 0)), (0, .ref p0)]) hx hb dL_pass_1 rfl hl (by decide) rfl (fun ls hl => ?_)
  -- loop at 2
  refine loopW (nL := 2) (S := Unit) (B := n) (I := fun i u => True) (lv := fun i u => [(0, .ref p0), (1, .int (nI i))]) (wf := fun i u => [(p0, .inl (cI, 21, .inl (psF wa i)))]) 0 () (Nat.zero_le _) (trivial) (lv_sub hl [1, 0] rfl) (by show va_P D vwCl ([(p0, .inl (cI, 21, .inl (psF wa 0)))]) H; rw [psF_0]; exact hP) (hD.addr rfl) hS (fun i u ls H locs hj hI hl hP hD hS ih => ?_)
  have hP : va_P D vwCl ([(p0, .inl (cI, 21, .inl (psF wa i)))]) H := hP
  have hD : va_D A ([(p0, .inl (cI, 21, .inl (psF wa i)))]) := hD
  have hl : lv_has ls 2 [(0, .ref p0), (1, .int (nI i))] := hl
  have ih_2 := ih
  refine lv_iload_n hx hb dL_pass_2 rfl (lv_at hl 1 rfl) ?_
  refine lv_aload_n hx hb dL_pass_3 rfl (lv_at hl 0 rfl) ?_
  refine lv_iconst (v := (nI 0)) hx hb dL_pass_4 (by decide) ?_
  refine nv_iald hx hb hK.1 hP 0 0 rfl rfl (by omega) (by omega) dL_pass_5 ?_
  rw [show (((psF wa i) 0) : Int32) = (nI n) from by rw [psF_n (by omega)]; exact hw0]
  refine nv_icmp_ge (tgt := 41) hx hb dL_pass_6 (by omega) (by omega) (by decide) (fun c_6 => ?_) (fun c_6 => ?_)
  · skip
    subst hAe
    exact wr_v (w1 := fun (_ : Unit) => [(p0, .inl (cI, 21, .inl (psF wa n)))]) hx hb hr hlocks hS () (by rw [show i = n by omega] at hP; exact hP) dL_pass_41 trivial
  · skip
    refine lv_aload_n hx hb dL_pass_9 rfl (lv_at hl 0 rfl) ?_
    refine lv_iconst (v := (nI 4)) hx hb dL_pass_10 (by decide) ?_
    refine lv_iconst (v := (nI 3)) hx hb dL_pass_11 (by decide) ?_
    refine lv_iload_n hx hb dL_pass_12 rfl (lv_at hl 1 rfl) ?_
    refine nv_imul hx hb dL_pass_13 ?_
    refine nv_iadd hx hb dL_pass_14 ?_
    refine lv_dup2_11 hx hb dL_pass_15 rfl rfl ?_
    refine nv_iald hx hb hK.1 hP 0 0 rfl rfl (by omega) (by omega) dL_pass_16 ?_
    refine lv_aload_n hx hb dL_pass_17 rfl (lv_at hl 0 rfl) ?_
    refine lv_iconst (v := (nI 3)) hx hb dL_pass_18 (by decide) ?_
    refine lv_iconst (v := (nI 3)) hx hb dL_pass_19 (by decide) ?_
    refine lv_iload_n hx hb dL_pass_20 rfl (lv_at hl 1 rfl) ?_
    refine nv_imul hx hb dL_pass_21 ?_
    refine nv_iadd hx hb dL_pass_22 ?_
    refine nv_iald hx hb hK.1 hP 0 0 rfl rfl (by omega) (by omega) dL_pass_23 ?_
    refine lv_iconst (v := (nI 4)) hx hb dL_pass_24 (by decide) ?_
    refine lv_icmp_ne (tgt := 32) hx hb dL_pass_25 (by decide) (fun c_25 => ?_) (fun c_25 => ?_)
    · skip
      refine lv_iconst (v := (nI 1)) hx hb dL_pass_32 (by decide) ?_
      refine lv_iadd hx hb dL_pass_33 ?_
      refine nv_iast hx hb hK.1 hP hD hS 0 0 rfl rfl (by omega) (by omega) dL_pass_34 (fun H locs hP hD hS => ?_)
      have hP : va_P D vwCl ([(p0, .inl (cI, 21, .inl (upd (psF wa i) (4 + (3 * i)) (((psF wa i) (4 + (3 * i))) + (nI 1)))))]) H := hP
      have hD : va_D A ([(p0, .inl (cI, 21, .inl (upd (psF wa i) (4 + (3 * i)) (((psF wa i) (4 + (3 * i))) + (nI 1)))))]) := hD
      have e_1 : upd (psF wa i) (4 + (3 * i)) (((psF wa i) (4 + (3 * i))) + (nI 1)) = psF wa (i + 1) := psF_s2 c_25
      rw [e_1] at hP hD
      have hP : va_P D vwCl ([(p0, .inl (cI, 21, .inl (psF wa (i + 1))))]) H := hP
      have hD : va_D A ([(p0, .inl (cI, 21, .inl (psF wa (i + 1))))]) := hD
      refine lv_iinc (v := (nI (i + 1))) (lv' := [(1, .int (nI (i + 1))), (0, .ref p0)]) hx hb dL_pass_35 hl (k := 1) rfl (nI_i1 _) (by decide) rfl (fun ls hl => ?_)
      refine lv_goto (tgt := 2) hx hb dL_pass_38 (by decide) ?_
      exact ih_2 () _ _ _ (by omega) (trivial) (lv_sub hl [1, 0] rfl) hP (hD.addr rfl) hS
    · skip
      refine lv_iconst (v := (nI 0)) hx hb dL_pass_28 (by decide) ?_
      refine lv_goto (tgt := 33) hx hb dL_pass_29 (by decide) ?_
      refine lv_iadd hx hb dL_pass_33 ?_
      refine nv_iast hx hb hK.1 hP hD hS 0 0 rfl rfl (by omega) (by omega) dL_pass_34 (fun H locs hP hD hS => ?_)
      have hP : va_P D vwCl ([(p0, .inl (cI, 21, .inl (upd (psF wa i) (4 + (3 * i)) (((psF wa i) (4 + (3 * i))) + (nI 0)))))]) H := hP
      have hD : va_D A ([(p0, .inl (cI, 21, .inl (upd (psF wa i) (4 + (3 * i)) (((psF wa i) (4 + (3 * i))) + (nI 0)))))]) := hD
      have e_2 : upd (psF wa i) (4 + (3 * i)) (((psF wa i) (4 + (3 * i))) + (nI 0)) = psF wa (i + 1) := psF_s1 c_25
      rw [e_2] at hP hD
      have hP : va_P D vwCl ([(p0, .inl (cI, 21, .inl (psF wa (i + 1))))]) H := hP
      have hD : va_D A ([(p0, .inl (cI, 21, .inl (psF wa (i + 1))))]) := hD
      refine lv_iinc (v := (nI (i + 1))) (lv' := [(1, .int (nI (i + 1))), (0, .ref p0)]) hx hb dL_pass_35 hl (k := 1) rfl (nI_i1 _) (by decide) rfl (fun ls hl => ?_)
      refine lv_goto (tgt := 2) hx hb dL_pass_38 (by decide) ?_
      exact ih_2 () _ _ _ (by omega) (trivial) (lv_sub hl [1, 0] rfl) hP (hD.addr rfl) hS
abbrev rm_L_bears : Room := { frames := 0, cells := 0, slots := 0, locals := 0 }
set_option maxRecDepth 100000 in
set_option maxHeartbeats 4000000 in
theorem c_L_bears (l : Launch) (D : va_G) (cI cB : ClassId) (aS : Nat) (p0 : Nat) (wa : Nat → Int32) (k c9 : Nat) (qk : k < 6) (qc : c9 ≤ 4) (hc9 : wa (3 + 3 * k) = nI c9) : Met l yL_bears (mw yL_bears cL_bears 2 (some .boolean)) rm_L_bears (RP D cI cB aS ([(p0, .inl (cI, 21, .inl wa))]) [.ref p0, .int (nI k)]) (vp_Si (fun r => r = (bi (mayB (nI c9))))) 0 0 (fun _ => False) := by
  refine met_of (by decide) (Nat.le_of_ble_eq_true rfl) ?_
  intro p e s m below meth c ls hx hb hr hml hown hg hlocks hin hK hP hl
  have hown : s.vm.findClass RL = some m.cls := hown
  have hl : lv_has ls 2 [(0, .ref p0), (1, .int (nI k))] := hl
  refine lv_aload_n hx hb dL_bears_0 rfl (lv_at hl 0 rfl) ?_
  refine lv_iconst (v := (nI 3)) hx hb dL_bears_1 (by decide) ?_
  refine lv_iconst (v := (nI 3)) hx hb dL_bears_2 (by decide) ?_
  refine lv_iload_n hx hb dL_bears_3 rfl (lv_at hl 1 rfl) ?_
  refine nv_imul hx hb dL_bears_4 ?_
  refine nv_iadd hx hb dL_bears_5 ?_
  refine nv_iald hx hb hK.1 hP 0 0 rfl rfl (by omega) (by omega) dL_bears_6 ?_
  rw [show ((wa (3 + (3 * k))) : Int32) = (nI c9) from hc9]
  refine lv_iconst (v := (nI 2)) hx hb dL_bears_7 (by decide) ?_
  refine nv_irem hx hb dL_bears_8 (by omega) (by omega) (by omega) ?_
  refine lv_iconst (v := (nI 1)) hx hb dL_bears_9 (by decide) ?_
  refine nv_icmp_eq (tgt := 23) hx hb dL_bears_10 (by omega) (by omega) (by decide) (fun c_10 => ?_) (fun c_10 => ?_)
  · skip
    refine lv_iconst (v := (nI 1)) hx hb dL_bears_23 (by decide) ?_
    refine lv_goto (tgt := 28) hx hb dL_bears_24 (by decide) ?_
    exact rr_z hx hb hr hlocks dL_bears_28 bi_nar (ret_t ((may_01 qc).mp (Or.inl c_10)))
  · skip
    refine lv_aload_n hx hb dL_bears_13 rfl (lv_at hl 0 rfl) ?_
    refine lv_iconst (v := (nI 3)) hx hb dL_bears_14 (by decide) ?_
    refine lv_iconst (v := (nI 3)) hx hb dL_bears_15 (by decide) ?_
    refine lv_iload_n hx hb dL_bears_16 rfl (lv_at hl 1 rfl) ?_
    refine nv_imul hx hb dL_bears_17 ?_
    refine nv_iadd hx hb dL_bears_18 ?_
    refine nv_iald hx hb hK.1 hP 0 0 rfl rfl (by omega) (by omega) dL_bears_19 ?_
    rw [show ((wa (3 + (3 * k))) : Int32) = (nI c9) from hc9]
    refine nv_if_ne (tgt := 27) hx hb dL_bears_20 (by omega) (by decide) (fun c_20 => ?_) (fun c_20 => ?_)
    · skip
      refine lv_iconst (v := (nI 0)) hx hb dL_bears_27 (by decide) ?_
      exact rr_z hx hb hr hlocks dL_bears_28 bi_nar (ret_f (fun q => ((may_01 qc).mpr q).elim c_10 c_20))
    · skip
      refine lv_iconst (v := (nI 1)) hx hb dL_bears_23 (by decide) ?_
      refine lv_goto (tgt := 28) hx hb dL_bears_24 (by decide) ?_
      exact rr_z hx hb hr hlocks dL_bears_28 bi_nar (ret_t ((may_01 qc).mp (Or.inr c_20)))
abbrev rm_L_bear : Room := { frames := 0, cells := 0, slots := 0, locals := 0 }
set_option maxRecDepth 100000 in
set_option maxHeartbeats 4000000 in
theorem c_L_bear (l : Launch) (D : va_G) (cI cB : ClassId) (aS : Nat) (p0 : Nat) (wa : Nat → Int32) (n k : Nat) (hD0 : va_D (fun _ => True) ([(p0, .inl (cI, 21, .inl wa))])) (hw0 : wa 0 = nI n) (hn6 : n ≤ 6) (qk : k < n) : Met l yL_bear (mw yL_bear cL_bear 3 (some .int)) rm_L_bear (RP D cI cB aS ([(p0, .inl (cI, 21, .inl wa))]) [.ref p0, .int (nI k)]) (wq mkI ([(p0, .inl (cI, 21, .inl wa))]) (fun (_ : Unit) => [(p0, .inl (cI, 21, .inl (beW n wa k)))]) D (fun (r : Int32) (_ : Unit) => r = (if lnW n wa k then nI 2 else nI 1))) 0 0 (inW ([(p0, .inl (cI, 21, .inl wa))])) := by
  refine met_of (by decide) (Nat.le_of_ble_eq_true rfl) ?_
  intro p e s m below meth c ls hx hb hr hml hown hg hlocks hin hK hP hl
  have hown : s.vm.findClass RL = some m.cls := hown
  have hl : lv_has ls 3 [(0, .ref p0), (1, .int (nI k))] := hl
  have hD := hD0.here
  have hS0 : va_S (inW ([(p0, .inl (cI, 21, .inl wa))])) s.heap s.heap [] := va_S.rf
  obtain ⟨H, hH⟩ : ∃ H, H = s.heap := ⟨_, rfl⟩
  have hS : va_S (inW ([(p0, .inl (cI, 21, .inl wa))])) s.heap H [] := by rw [hH]; exact hS0
  clear hS0
  rw [← hH] at hP ⊢
  generalize hAe : inW ([(p0, .inl (cI, 21, .inl wa))]) = A at hD hS ⊢
  refine lv_aload_n hx hb dL_bear_0 rfl (lv_at hl 0 rfl) ?_
  refine lv_iconst (v := (nI 4)) hx hb dL_bear_1 (by decide) ?_
  refine lv_iconst (v := (nI 3)) hx hb dL_bear_2 (by decide) ?_
  refine lv_iload_n hx hb dL_bear_3 rfl (lv_at hl 1 rfl) ?_
  refine nv_imul hx hb dL_bear_4 ?_
  refine nv_iadd hx hb dL_bear_5 ?_
  refine lv_iconst (v := (nI 0)) hx hb dL_bear_6 (by decide) ?_
  refine nv_iast hx hb hK.1 hP hD hS 0 0 rfl rfl (by omega) (by omega) dL_bear_7 (fun H locs hP hD hS => ?_)
  have hP : va_P D vwCl ([(p0, .inl (cI, 21, .inl (upd wa (4 + (3 * k)) (nI 0))))]) H := hP
  have hD : va_D A ([(p0, .inl (cI, 21, .inl (upd wa (4 + (3 * k)) (nI 0))))]) := hD
  refine lv_iload_n hx hb dL_bear_8 rfl (lv_at hl 1 rfl) ?_
  refine lv_aload_n hx hb dL_bear_9 rfl (lv_at hl 0 rfl) ?_
  refine lv_iconst (v := (nI 0)) hx hb dL_bear_10 (by decide) ?_
  refine nv_iald hx hb hK.1 hP 0 0 rfl rfl (by omega) (by omega) dL_bear_11 ?_
  rw [show (((upd wa (4 + (3 * k)) (nI 0)) 0) : Int32) = (nI n) from by rw [pk_un (by omega)]; exact hw0]
  refine lv_iconst (v := (nI 1)) hx hb dL_bear_12 (by decide) ?_
  refine nv_isub hx hb dL_bear_13 (by omega) ?_
  refine nv_icmp_ge (tgt := 33) hx hb dL_bear_14 (by omega) (by omega) (by decide) (fun c_14 => ?_) (fun c_14 => ?_)
  · skip
    refine lv_iconst (v := (nI 0)) hx hb dL_bear_33 (by decide) ?_
    refine lv_istore_n (lv' := [(2, .int (nI 0)), (0, .ref p0), (1, .int (nI k))]) hx hb dL_bear_34 rfl hl (by decide) rfl (fun ls hl => ?_)
    refine lv_iload_n hx hb dL_bear_35 rfl (lv_at hl 0 rfl) ?_
    refine nv_if_eq (tgt := 48) hx hb dL_bear_36 (by omega) (by decide) (fun c_36 => ?_) (fun c_36 => ?_)
    · skip
      refine lv_iload_n hx hb dL_bear_48 rfl (lv_at hl 0 rfl) ?_
      refine nv_if_eq (tgt := 56) hx hb dL_bear_49 (by omega) (by decide) (fun c_49 => ?_) (fun c_49 => ?_)
      · skip
        refine lv_iconst (v := (nI 1)) hx hb dL_bear_56 (by decide) ?_
        subst hAe
        exact wr_i (w1 := fun (_ : Unit) => [(p0, .inl (cI, 21, .inl (beW n wa k)))]) hx hb hr hlocks hS () (by rw [← beW_f (n := n) (fun q => absurd q.1 (by omega))] at hP; exact hP) dL_bear_57 ((if_neg (fun q => absurd q.1 (by omega))).symm)
      · exact absurd rfl c_49
    · exact absurd rfl c_36
  · skip
    refine lv_aload_n hx hb dL_bear_17 rfl (lv_at hl 0 rfl) ?_
    refine lv_bipush (v := (nI 6)) hx hb dL_bear_18 (by decide) ?_
    refine lv_iconst (v := (nI 3)) hx hb dL_bear_20 (by decide) ?_
    refine lv_iload_n hx hb dL_bear_21 rfl (lv_at hl 1 rfl) ?_
    refine nv_imul hx hb dL_bear_22 ?_
    refine nv_iadd hx hb dL_bear_23 ?_
    refine nv_iald hx hb hK.1 hP 0 0 rfl rfl (by omega) (by omega) dL_bear_24 ?_
    rw [show (((upd wa (4 + (3 * k)) (nI 0)) (6 + (3 * k))) : Int32) = (wa (6 + 3 * k)) from pk_un (by omega)]
    refine lv_iconst (v := (nI 3)) hx hb dL_bear_25 (by decide) ?_
    refine lv_icmp_ne (tgt := 33) hx hb dL_bear_26 (by decide) (fun c_26 => ?_) (fun c_26 => ?_)
    · skip
      refine lv_iconst (v := (nI 0)) hx hb dL_bear_33 (by decide) ?_
      refine lv_istore_n (lv' := [(2, .int (nI 0)), (0, .ref p0), (1, .int (nI k))]) hx hb dL_bear_34 rfl hl (by decide) rfl (fun ls hl => ?_)
      refine lv_iload_n hx hb dL_bear_35 rfl (lv_at hl 0 rfl) ?_
      refine nv_if_eq (tgt := 48) hx hb dL_bear_36 (by omega) (by decide) (fun c_36 => ?_) (fun c_36 => ?_)
      · skip
        refine lv_iload_n hx hb dL_bear_48 rfl (lv_at hl 0 rfl) ?_
        refine nv_if_eq (tgt := 56) hx hb dL_bear_49 (by omega) (by decide) (fun c_49 => ?_) (fun c_49 => ?_)
        · skip
          refine lv_iconst (v := (nI 1)) hx hb dL_bear_56 (by decide) ?_
          subst hAe
          exact wr_i (w1 := fun (_ : Unit) => [(p0, .inl (cI, 21, .inl (beW n wa k)))]) hx hb hr hlocks hS () (by rw [← beW_f (n := n) (fun q => c_26 q.2)] at hP; exact hP) dL_bear_57 ((if_neg (fun q => c_26 q.2)).symm)
        · exact absurd rfl c_49
      · exact absurd rfl c_36
    · skip
      refine lv_iconst (v := (nI 1)) hx hb dL_bear_29 (by decide) ?_
      refine lv_goto (tgt := 34) hx hb dL_bear_30 (by decide) ?_
      refine lv_istore_n (lv' := [(2, .int (nI 1)), (0, .ref p0), (1, .int (nI k))]) hx hb dL_bear_34 rfl hl (by decide) rfl (fun ls hl => ?_)
      refine lv_iload_n hx hb dL_bear_35 rfl (lv_at hl 0 rfl) ?_
      refine nv_if_eq (tgt := 48) hx hb dL_bear_36 (by omega) (by decide) (fun c_36 => ?_) (fun c_36 => ?_)
      · exact absurd c_36 (by decide)
      · skip
        refine lv_aload_n hx hb dL_bear_39 rfl (lv_at hl 1 rfl) ?_
        refine lv_bipush (v := (nI 7)) hx hb dL_bear_40 (by decide) ?_
        refine lv_iconst (v := (nI 3)) hx hb dL_bear_42 (by decide) ?_
        refine lv_iload_n hx hb dL_bear_43 rfl (lv_at hl 2 rfl) ?_
        refine nv_imul hx hb dL_bear_44 ?_
        refine nv_iadd hx hb dL_bear_45 ?_
        refine lv_iconst (v := (nI 0)) hx hb dL_bear_46 (by decide) ?_
        refine nv_iast hx hb hK.1 hP hD hS 0 0 rfl rfl (by omega) (by omega) dL_bear_47 (fun H locs hP hD hS => ?_)
        have hP : va_P D vwCl ([(p0, .inl (cI, 21, .inl (upd (upd wa (4 + (3 * k)) (nI 0)) (7 + (3 * k)) (nI 0))))]) H := hP
        have hD : va_D A ([(p0, .inl (cI, 21, .inl (upd (upd wa (4 + (3 * k)) (nI 0)) (7 + (3 * k)) (nI 0))))]) := hD
        refine lv_iload_n hx hb dL_bear_48 rfl (lv_at hl 0 rfl) ?_
        refine nv_if_eq (tgt := 56) hx hb dL_bear_49 (by omega) (by decide) (fun c_49 => ?_) (fun c_49 => ?_)
        · exact absurd c_49 (by decide)
        · skip
          refine lv_iconst (v := (nI 2)) hx hb dL_bear_52 (by decide) ?_
          refine lv_goto (tgt := 57) hx hb dL_bear_53 (by decide) ?_
          subst hAe
          exact wr_i (w1 := fun (_ : Unit) => [(p0, .inl (cI, 21, .inl (beW n wa k)))]) hx hb hr hlocks hS () (by rw [← beW_t (n := n) ⟨by omega, c_26⟩] at hP; exact hP) dL_bear_57 ((if_pos ⟨by omega, c_26⟩).symm)
abbrev rm_L_order : Room := { frames := 2, cells := 0, slots := 0, locals := 42 }
set_option maxRecDepth 100000 in
set_option maxHeartbeats 4000000 in
theorem c_L_order (l : Launch) (D : va_G) (cI cB : ClassId) (aS : Nat) (p0 : Nat) (wa : Nat → Int32) (n k : Nat) (hw0 : wa 0 = nI n) (hn6 : n ≤ 6) (qk : k < n) : Met l yL_order (mw yL_order cL_order 4 (some .int)) rm_L_order (RP D cI cB aS ([(p0, .inl (cI, 21, .inl wa))]) [.ref p0, .int (nI k)]) (vp_Si (fun r => r = (nI (ordF n (nwF wa) k)))) 0 0 (fun _ => False) := by
  refine met_of (by decide) (Nat.le_of_ble_eq_true rfl) ?_
  intro p e s m below meth c ls hx hb hr hml hown hg hlocks hin hK hP hl
  have hown : s.vm.findClass RL = some m.cls := hown
  have hl : lv_has ls 4 [(0, .ref p0), (1, .int (nI k))] := hl
  refine lv_iconst (v := (nI 0)) hx hb dL_order_0 (by decide) ?_
  refine lv_istore_n (lv' := [(2, .int (nI 0)), (0, .ref p0), (1, .int (nI k))]) hx hb dL_order_1 rfl hl (by decide) rfl (fun ls hl => ?_)
  refine lv_iconst (v := (nI 0)) hx hb dL_order_2 (by decide) ?_
  refine lv_istore_n (lv' := [(3, .int (nI 0)), (2, .int (nI 0)), (0, .ref p0), (1, .int (nI k))]) hx hb dL_order_3 rfl hl (by decide) rfl (fun ls hl => ?_)
  -- loop at 4
  refine loopR (nL := 4) (B := n) (I := fun i => True) (lv := fun i => [(0, .ref p0), (1, .int (nI k)), (2, .int (nI (cn (ordP (nwF wa) k) i))), (3, .int (nI i))]) 0 (Nat.zero_le _) (trivial) (by show lv_has ls 4 [(0, .ref p0), (1, .int (nI k)), (2, .int (nI (cn (ordP (nwF wa) k) 0))), (3, .int (nI 0))]; exact lv_sub hl [2, 3, 1, 0] rfl) (fun i ls hj hI hl ih => ?_)
  have hl : lv_has ls 4 [(0, .ref p0), (1, .int (nI k)), (2, .int (nI (cn (ordP (nwF wa) k) i))), (3, .int (nI i))] := hl
  have ih_4 := ih
  refine lv_iload_n hx hb dL_order_4 rfl (lv_at hl 3 rfl) ?_
  refine lv_aload_n hx hb dL_order_5 rfl (lv_at hl 0 rfl) ?_
  refine lv_iconst (v := (nI 0)) hx hb dL_order_6 (by decide) ?_
  refine nv_iald hx hb hK.1 hP 0 0 rfl rfl (by omega) (by omega) dL_order_7 ?_
  rw [show ((wa 0) : Int32) = (nI n) from hw0]
  refine nv_icmp_ge (tgt := 56) hx hb dL_order_8 (by omega) (by omega) (by decide) (fun c_8 => ?_) (fun c_8 => ?_)
  · skip
    refine lv_iload_n hx hb dL_order_56 rfl (lv_at hl 2 rfl) ?_
    exact rr_i hx hb hr hlocks dL_order_57 (by rw [show i = n by omega]; rfl)
  · skip
    refine lv_iload_n hx hb dL_order_11 rfl (lv_at hl 2 rfl) ?_
    refine lv_aload_n hx hb dL_order_12 rfl (lv_at hl 0 rfl) ?_
    refine lv_iload_n hx hb dL_order_13 rfl (lv_at hl 3 rfl) ?_
    have hP_1 := hP.sub (ws' := [(p0, .inl (cI, 21, .inl wa))]) [0] rfl
    refine rdS (As := [.ref p0, .int (nI i)]) (rest := [.int (nI (cn (ordP (nwF wa) k) i))]) hx hb hml hown hg (c_L_now l D cI cB aS p0 wa i (by first | assumption | omega)) gm_318 sf_L_now ⟨Nat.le_of_ble_eq_true rfl, Nat.le_of_ble_eq_true rfl⟩ ⟨rfl, rfl⟩ ⟨Nat.zero_le _, Nat.zero_le _⟩ (RP.preS hK hP_1) rfl hl.1 rfl (Nat.le_of_ble_eq_true rfl) dL_order_14 ?_
    refine lv_aload_n hx hb dL_order_17 rfl (lv_at hl 0 rfl) ?_
    refine lv_iload_n hx hb dL_order_18 rfl (lv_at hl 1 rfl) ?_
    have hP_2 := hP.sub (ws' := [(p0, .inl (cI, 21, .inl wa))]) [0] rfl
    refine rdS (As := [.ref p0, .int (nI k)]) (rest := [.int (nwF wa i), .int (nI (cn (ordP (nwF wa) k) i))]) hx hb hml hown hg (c_L_now l D cI cB aS p0 wa k (by first | assumption | omega)) gm_318 sf_L_now ⟨Nat.le_of_ble_eq_true rfl, Nat.le_of_ble_eq_true rfl⟩ ⟨rfl, rfl⟩ ⟨Nat.zero_le _, Nat.zero_le _⟩ (RP.preS hK hP_2) rfl hl.1 rfl (Nat.le_of_ble_eq_true rfl) dL_order_19 ?_
    refine lv_icmp_lt (tgt := 43) hx hb dL_order_22 (by decide) (fun c_22 => ?_) (fun c_22 => ?_)
    · skip
      refine lv_iconst (v := (nI 1)) hx hb dL_order_43 (by decide) ?_
      refine lv_goto (tgt := 48) hx hb dL_order_44 (by decide) ?_
      refine nv_iadd hx hb dL_order_48 ?_
      refine lv_istore_n (lv' := [(2, .int (nI (cn (ordP (nwF wa) k) i + 1))), (0, .ref p0), (1, .int (nI k)), (3, .int (nI i))]) hx hb dL_order_49 rfl hl (by decide) rfl (fun ls hl => ?_)
      refine lv_iinc (v := (nI (i + 1))) (lv' := [(3, .int (nI (i + 1))), (2, .int (nI (cn (ordP (nwF wa) k) i + 1))), (0, .ref p0), (1, .int (nI k))]) hx hb dL_order_50 hl (k := 3) rfl (nI_i1 _) (by decide) rfl (fun ls hl => ?_)
      refine lv_goto (tgt := 4) hx hb dL_order_53 (by decide) ?_
      exact ih_4 _ (by omega) (trivial) (by show lv_has ls 4 [(0, .ref p0), (1, .int (nI k)), (2, .int (nI (cn (ordP (nwF wa) k) (i + 1)))), (3, .int (nI (i + 1)))]; rw [show (cn (ordP (nwF wa) k) (i + 1)) = cn (ordP (nwF wa) k) i + 1 from cn_t (decide_eq_true (Or.inl c_22))]; exact lv_sub hl [2, 3, 1, 0] rfl)
    · skip
      refine lv_aload_n hx hb dL_order_25 rfl (lv_at hl 0 rfl) ?_
      refine lv_iload_n hx hb dL_order_26 rfl (lv_at hl 3 rfl) ?_
      have hP_3 := hP.sub (ws' := [(p0, .inl (cI, 21, .inl wa))]) [0] rfl
      refine rdS (As := [.ref p0, .int (nI i)]) (rest := [.int (nI (cn (ordP (nwF wa) k) i))]) hx hb hml hown hg (c_L_now l D cI cB aS p0 wa i (by first | assumption | omega)) gm_318 sf_L_now ⟨Nat.le_of_ble_eq_true rfl, Nat.le_of_ble_eq_true rfl⟩ ⟨rfl, rfl⟩ ⟨Nat.zero_le _, Nat.zero_le _⟩ (RP.preS hK hP_3) rfl hl.1 rfl (Nat.le_of_ble_eq_true rfl) dL_order_27 ?_
      refine lv_aload_n hx hb dL_order_30 rfl (lv_at hl 0 rfl) ?_
      refine lv_iload_n hx hb dL_order_31 rfl (lv_at hl 1 rfl) ?_
      have hP_4 := hP.sub (ws' := [(p0, .inl (cI, 21, .inl wa))]) [0] rfl
      refine rdS (As := [.ref p0, .int (nI k)]) (rest := [.int (nwF wa i), .int (nI (cn (ordP (nwF wa) k) i))]) hx hb hml hown hg (c_L_now l D cI cB aS p0 wa k (by first | assumption | omega)) gm_318 sf_L_now ⟨Nat.le_of_ble_eq_true rfl, Nat.le_of_ble_eq_true rfl⟩ ⟨rfl, rfl⟩ ⟨Nat.zero_le _, Nat.zero_le _⟩ (RP.preS hK hP_4) rfl hl.1 rfl (Nat.le_of_ble_eq_true rfl) dL_order_32 ?_
      refine lv_icmp_ne (tgt := 47) hx hb dL_order_35 (by decide) (fun c_35 => ?_) (fun c_35 => ?_)
      · skip
        refine lv_iconst (v := (nI 0)) hx hb dL_order_47 (by decide) ?_
        refine nv_iadd hx hb dL_order_48 ?_
        refine lv_istore_n (lv' := [(2, .int (nI (cn (ordP (nwF wa) k) i + 0))), (0, .ref p0), (1, .int (nI k)), (3, .int (nI i))]) hx hb dL_order_49 rfl hl (by decide) rfl (fun ls hl => ?_)
        refine lv_iinc (v := (nI (i + 1))) (lv' := [(3, .int (nI (i + 1))), (2, .int (nI (cn (ordP (nwF wa) k) i + 0))), (0, .ref p0), (1, .int (nI k))]) hx hb dL_order_50 hl (k := 3) rfl (nI_i1 _) (by decide) rfl (fun ls hl => ?_)
        refine lv_goto (tgt := 4) hx hb dL_order_53 (by decide) ?_
        exact ih_4 _ (by omega) (trivial) (by show lv_has ls 4 [(0, .ref p0), (1, .int (nI k)), (2, .int (nI (cn (ordP (nwF wa) k) (i + 1)))), (3, .int (nI (i + 1)))]; rw [show (cn (ordP (nwF wa) k) (i + 1)) = cn (ordP (nwF wa) k) i + 0 from cn_f (decide_eq_false (fun q => q.elim c_22 (fun q => c_35 q.1)))]; exact lv_sub hl [2, 3, 1, 0] rfl)
      · skip
        refine lv_iload_n hx hb dL_order_38 rfl (lv_at hl 3 rfl) ?_
        refine lv_iload_n hx hb dL_order_39 rfl (lv_at hl 1 rfl) ?_
        refine nv_icmp_ge (tgt := 47) hx hb dL_order_40 (by omega) (by omega) (by decide) (fun c_40 => ?_) (fun c_40 => ?_)
        · skip
          refine lv_iconst (v := (nI 0)) hx hb dL_order_47 (by decide) ?_
          refine nv_iadd hx hb dL_order_48 ?_
          refine lv_istore_n (lv' := [(2, .int (nI (cn (ordP (nwF wa) k) i + 0))), (0, .ref p0), (1, .int (nI k)), (3, .int (nI i))]) hx hb dL_order_49 rfl hl (by decide) rfl (fun ls hl => ?_)
          refine lv_iinc (v := (nI (i + 1))) (lv' := [(3, .int (nI (i + 1))), (2, .int (nI (cn (ordP (nwF wa) k) i + 0))), (0, .ref p0), (1, .int (nI k))]) hx hb dL_order_50 hl (k := 3) rfl (nI_i1 _) (by decide) rfl (fun ls hl => ?_)
          refine lv_goto (tgt := 4) hx hb dL_order_53 (by decide) ?_
          exact ih_4 _ (by omega) (trivial) (by show lv_has ls 4 [(0, .ref p0), (1, .int (nI k)), (2, .int (nI (cn (ordP (nwF wa) k) (i + 1)))), (3, .int (nI (i + 1)))]; rw [show (cn (ordP (nwF wa) k) (i + 1)) = cn (ordP (nwF wa) k) i + 0 from cn_f (decide_eq_false (fun q => q.elim c_22 (fun q => absurd q.2 (by omega))))]; exact lv_sub hl [2, 3, 1, 0] rfl)
        · skip
          refine lv_iconst (v := (nI 1)) hx hb dL_order_43 (by decide) ?_
          refine lv_goto (tgt := 48) hx hb dL_order_44 (by decide) ?_
          refine nv_iadd hx hb dL_order_48 ?_
          refine lv_istore_n (lv' := [(2, .int (nI (cn (ordP (nwF wa) k) i + 1))), (0, .ref p0), (1, .int (nI k)), (3, .int (nI i))]) hx hb dL_order_49 rfl hl (by decide) rfl (fun ls hl => ?_)
          refine lv_iinc (v := (nI (i + 1))) (lv' := [(3, .int (nI (i + 1))), (2, .int (nI (cn (ordP (nwF wa) k) i + 1))), (0, .ref p0), (1, .int (nI k))]) hx hb dL_order_50 hl (k := 3) rfl (nI_i1 _) (by decide) rfl (fun ls hl => ?_)
          refine lv_goto (tgt := 4) hx hb dL_order_53 (by decide) ?_
          exact ih_4 _ (by omega) (trivial) (by show lv_has ls 4 [(0, .ref p0), (1, .int (nI k)), (2, .int (nI (cn (ordP (nwF wa) k) (i + 1)))), (3, .int (nI (i + 1)))]; rw [show (cn (ordP (nwF wa) k) (i + 1)) = cn (ordP (nwF wa) k) i + 1 from cn_t (decide_eq_true (Or.inr ⟨c_35, by omega⟩))]; exact lv_sub hl [2, 3, 1, 0] rfl)
abbrev rm_L_walk : Room := { frames := 2, cells := 0, slots := 0, locals := 42 }
set_option maxRecDepth 100000 in
set_option maxHeartbeats 4000000 in
theorem c_L_walk (l : Launch) (D : va_G) (cI cB : ClassId) (aS : Nat) (p0 : Nat) (wa : Nat → Int32) (n : Nat) (hw0 : wa 0 = nI n) (hn6 : n ≤ 6) (qn : 0 < n) : Met l yL_walk (mw yL_walk cL_walk 7 (some .int)) rm_L_walk (RP D cI cB aS ([(p0, .inl (cI, 21, .inl wa))]) [.ref p0]) (vp_Si (fun r => r = (nI (wkF n (nwF wa) n)))) 0 0 (fun _ => False) := by
  refine met_of (by decide) (Nat.le_of_ble_eq_true rfl) ?_
  intro p e s m below meth c ls hx hb hr hml hown hg hlocks hin hK hP hl
  have hown : s.vm.findClass RL = some m.cls := hown
  have hl : lv_has ls 7 [(0, .ref p0)] := hl
  refine lv_iconst (v := (nI 1)) hx hb dL_walk_0 (by decide) ?_
  refine lv_aload_n hx hb dL_walk_1 rfl (lv_at hl 0 rfl) ?_
  refine lv_iconst (v := (nI 0)) hx hb dL_walk_2 (by decide) ?_
  refine nv_iald hx hb hK.1 hP 0 0 rfl rfl (by omega) (by omega) dL_walk_3 ?_
  rw [show ((wa 0) : Int32) = (nI n) from hw0]
  refine lv_ishl hx hb dL_walk_4 ?_
  rw [show (((nI 1) <<< ((nI n) &&& 31)) : Int32) = (nI (2 ^ n)) from shl_n n hn6]
  refine lv_iconst (v := (nI 1)) hx hb dL_walk_5 (by decide) ?_
  refine nv_isub hx hb dL_walk_6 (Nat.two_pow_pos n) ?_
  refine lv_istore_n (lv' := [(1, .int (nI ((2 ^ n) - 1))), (0, .ref p0)]) hx hb dL_walk_7 rfl hl (by decide) rfl (fun ls hl => ?_)
  refine lv_iconst (v := (nI 0)) hx hb dL_walk_8 (by decide) ?_
  refine lv_istore_n (lv' := [(2, .int (nI 0)), (1, .int (nI ((2 ^ n) - 1))), (0, .ref p0)]) hx hb dL_walk_9 rfl hl (by decide) rfl (fun ls hl => ?_)
  refine lv_iconst (v := (nI 0)) hx hb dL_walk_10 (by decide) ?_
  refine lv_istore_n (lv' := [(3, .int (nI 0)), (2, .int (nI 0)), (1, .int (nI ((2 ^ n) - 1))), (0, .ref p0)]) hx hb dL_walk_11 rfl hl (by decide) rfl (fun ls hl => ?_)
  -- loop at 12
  refine loopR (nL := 7) (B := n) (I := fun t => True) (lv := fun t => [(0, .ref p0), (1, .int (nI (lfN n (nwF wa) t))), (2, .int (nI (wkP n (nwF wa) t))), (3, .int (nI (wkF n (nwF wa) t)))]) 0 (Nat.zero_le _) (trivial) (by show lv_has ls 7 [(0, .ref p0), (1, .int (nI (lfN n (nwF wa) 0))), (2, .int (nI (wkP n (nwF wa) 0))), (3, .int (nI (wkF n (nwF wa) 0)))]; rw [show (lfN n (nwF wa) 0) = (2 ^ n) - 1 from (by first | exact lfN_0 | rfl), show (wkP n (nwF wa) 0) = 0 from (by first | exact lfN_0 | rfl), show (wkF n (nwF wa) 0) = 0 from (by first | exact lfN_0 | rfl)]; exact lv_sub hl [3, 2, 1, 0] rfl) (fun t ls hj hI hl ih => ?_)
  have hl : lv_has ls 7 [(0, .ref p0), (1, .int (nI (lfN n (nwF wa) t))), (2, .int (nI (wkP n (nwF wa) t))), (3, .int (nI (wkF n (nwF wa) t)))] := hl
  have ih_12 := ih
  refine lv_iload_n hx hb dL_walk_12 rfl (lv_at hl 1 rfl) ?_
  refine nv_if_le (tgt := 121) hx hb dL_walk_13 (by have := lfN_64 (v := nwF wa) (t := t) hn6; omega) (by decide) (fun c_13 => ?_) (fun c_13 => ?_)
  · skip
    refine lv_iload_n hx hb dL_walk_121 rfl (lv_at hl 3 rfl) ?_
    exact rr_i hx hb hr hlocks dL_walk_122 (by rw [lfN_zero hj c_13])
  · skip
    have ht := lfN_pos hj c_13
    have hht := (hot_ok (v := nwF wa) ht).1
    have hls := lfN_s (v := nwF wa) ht
    have hpl := wkP_lt (n := n) (v := nwF wa) (t := t) qn
    refine lv_iconst (v := (-1)) hx hb dL_walk_16 (by decide) ?_
    refine lv_istore (lv' := [(4, .int (-1)), (0, .ref p0), (1, .int (nI (lfN n (nwF wa) t))), (2, .int (nI (wkP n (nwF wa) t))), (3, .int (nI (wkF n (nwF wa) t)))]) hx hb dL_walk_17 hl (by decide) rfl (fun ls hl => ?_)
    refine lv_aload_n hx hb dL_walk_19 rfl (lv_at hl 1 rfl) ?_
    refine lv_iconst (v := (nI 0)) hx hb dL_walk_20 (by decide) ?_
    refine nv_iald hx hb hK.1 hP 0 0 rfl rfl (by omega) (by omega) dL_walk_21 ?_
    rw [show ((wa 0) : Int32) = (nI n) from hw0]
    refine lv_iconst (v := (nI 1)) hx hb dL_walk_22 (by decide) ?_
    refine lv_isub hx hb dL_walk_23 ?_
    refine lv_istore (lv' := [(5, .int ((nI n) - (nI 1))), (4, .int (-1)), (0, .ref p0), (1, .int (nI (lfN n (nwF wa) t))), (2, .int (nI (wkP n (nwF wa) t))), (3, .int (nI (wkF n (nwF wa) t)))]) hx hb dL_walk_24 hl (by decide) rfl (fun ls hl => ?_)
    -- loop at 26
    refine loopR (nL := 7) (B := n) (I := fun i => True) (lv := fun i => [(0, .ref p0), (1, .int (nI (lfN n (nwF wa) t))), (2, .int (nI (wkP n (nwF wa) t))), (3, .int (nI (wkF n (nwF wa) t))), (4, .int (o2i (lbN (nwF wa) (lfP n (nwF wa) t) n i))), (5, .int ((nI (n - i)) - (nI 1)))]) 0 (Nat.zero_le _) (trivial) (by show lv_has ls 7 [(0, .ref p0), (1, .int (nI (lfN n (nwF wa) t))), (2, .int (nI (wkP n (nwF wa) t))), (3, .int (nI (wkF n (nwF wa) t))), (4, .int (o2i (lbN (nwF wa) (lfP n (nwF wa) t) n 0))), (5, .int ((nI (n - 0)) - (nI 1)))]; exact lv_sub hl [2, 3, 4, 5, 1, 0] rfl) (fun i ls hj hI hl ih => ?_)
    have hl : lv_has ls 7 [(0, .ref p0), (1, .int (nI (lfN n (nwF wa) t))), (2, .int (nI (wkP n (nwF wa) t))), (3, .int (nI (wkF n (nwF wa) t))), (4, .int (o2i (lbN (nwF wa) (lfP n (nwF wa) t) n i))), (5, .int ((nI (n - i)) - (nI 1)))] := hl
    have ih_26 := ih
    refine lv_iload hx hb dL_walk_26 (lv_at hl 5 rfl) ?_
    refine lv_if_lt (tgt := 88) hx hb dL_walk_28 (by decide) (fun c_28 => ?_) (fun c_28 => ?_)
    · skip
      have e0 := sub1_neg (by omega) c_28
      have hl9 : o2i (lbN (nwF wa) (lfP n (nwF wa) t) n i) = nI (hotF n (nwF wa) t n) := by rw [show i = n by omega, lbN_hot ht]; rfl
      rw [hl9] at hl
      refine lv_iload_n hx hb dL_walk_88 rfl (lv_at hl 3 rfl) ?_
      refine lv_iload hx hb dL_walk_89 (lv_at hl 4 rfl) ?_
      refine lv_iload_n hx hb dL_walk_91 rfl (lv_at hl 2 rfl) ?_
      refine nv_icmp_le (tgt := 102) hx hb dL_walk_92 (by omega) (by omega) (by decide) (fun c_92 => ?_) (fun c_92 => ?_)
      · skip
        refine lv_iload_n hx hb dL_walk_102 rfl (lv_at hl 2 rfl) ?_
        refine lv_iload hx hb dL_walk_103 (lv_at hl 4 rfl) ?_
        refine nv_isub hx hb dL_walk_105 (by omega) ?_
        refine nv_iadd hx hb dL_walk_106 ?_
        refine lv_istore_n (lv' := [(3, .int (nI (wkF n (nwF wa) t + ((wkP n (nwF wa) t) - (hotF n (nwF wa) t n))))), (0, .ref p0), (1, .int (nI (lfN n (nwF wa) t))), (2, .int (nI (wkP n (nwF wa) t))), (4, .int (nI (hotF n (nwF wa) t n))), (5, .int ((nI (n - i)) - (nI 1)))]) hx hb dL_walk_107 rfl hl (by decide) rfl (fun ls hl => ?_)
        refine lv_iload hx hb dL_walk_108 (lv_at hl 4 rfl) ?_
        refine lv_istore_n (lv' := [(2, .int (nI (hotF n (nwF wa) t n))), (3, .int (nI (wkF n (nwF wa) t + ((wkP n (nwF wa) t) - (hotF n (nwF wa) t n))))), (0, .ref p0), (1, .int (nI (lfN n (nwF wa) t))), (4, .int (nI (hotF n (nwF wa) t n))), (5, .int ((nI (n - i)) - (nI 1)))]) hx hb dL_walk_110 rfl hl (by decide) rfl (fun ls hl => ?_)
        refine lv_iload_n hx hb dL_walk_111 rfl (lv_at hl 3 rfl) ?_
        refine lv_iconst (v := (nI 1)) hx hb dL_walk_112 (by decide) ?_
        refine lv_iload hx hb dL_walk_113 (lv_at hl 4 rfl) ?_
        refine lv_ishl hx hb dL_walk_115 ?_
        rw [show (((nI 1) <<< ((nI (hotF n (nwF wa) t n)) &&& 31)) : Int32) = (nI (2 ^ hotF n (nwF wa) t n)) from shl_n _ (by omega)]
        refine nv_isub hx hb dL_walk_116 (by omega) ?_
        refine lv_istore_n (lv' := [(1, .int (nI ((lfN n (nwF wa) t) - (2 ^ hotF n (nwF wa) t n)))), (2, .int (nI (hotF n (nwF wa) t n))), (3, .int (nI (wkF n (nwF wa) t + ((wkP n (nwF wa) t) - (hotF n (nwF wa) t n))))), (0, .ref p0), (4, .int (nI (hotF n (nwF wa) t n))), (5, .int ((nI (n - i)) - (nI 1)))]) hx hb dL_walk_117 rfl hl (by decide) rfl (fun ls hl => ?_)
        refine lv_goto (tgt := 12) hx hb dL_walk_118 (by decide) ?_
        exact ih_12 _ (by omega) (trivial) (by show lv_has ls 7 [(0, .ref p0), (1, .int (nI (lfN n (nwF wa) (t + 1)))), (2, .int (nI (wkP n (nwF wa) (t + 1)))), (3, .int (nI (wkF n (nwF wa) (t + 1))))]; rw [show (lfN n (nwF wa) (t + 1)) = (lfN n (nwF wa) t) - (2 ^ hotF n (nwF wa) t n) from (by rw [hls]; omega), show (wkP n (nwF wa) (t + 1)) = hotF n (nwF wa) t n from rfl, show (wkF n (nwF wa) (t + 1)) = wkF n (nwF wa) t + ((wkP n (nwF wa) t) - (hotF n (nwF wa) t n)) from (by show wkF n (nwF wa) t + dstF (hotF n (nwF wa) t n) (wkP n (nwF wa) t) = _; unfold dstF; rw [if_neg (by omega)])]; exact lv_sub hl [3, 0, 1, 2] rfl)
      · skip
        refine lv_iload hx hb dL_walk_95 (lv_at hl 4 rfl) ?_
        refine lv_iload_n hx hb dL_walk_97 rfl (lv_at hl 2 rfl) ?_
        refine nv_isub hx hb dL_walk_98 (by omega) ?_
        refine lv_goto (tgt := 106) hx hb dL_walk_99 (by decide) ?_
        refine nv_iadd hx hb dL_walk_106 ?_
        refine lv_istore_n (lv' := [(3, .int (nI (wkF n (nwF wa) t + ((hotF n (nwF wa) t n) - (wkP n (nwF wa) t))))), (0, .ref p0), (1, .int (nI (lfN n (nwF wa) t))), (2, .int (nI (wkP n (nwF wa) t))), (4, .int (nI (hotF n (nwF wa) t n))), (5, .int ((nI (n - i)) - (nI 1)))]) hx hb dL_walk_107 rfl hl (by decide) rfl (fun ls hl => ?_)
        refine lv_iload hx hb dL_walk_108 (lv_at hl 4 rfl) ?_
        refine lv_istore_n (lv' := [(2, .int (nI (hotF n (nwF wa) t n))), (3, .int (nI (wkF n (nwF wa) t + ((hotF n (nwF wa) t n) - (wkP n (nwF wa) t))))), (0, .ref p0), (1, .int (nI (lfN n (nwF wa) t))), (4, .int (nI (hotF n (nwF wa) t n))), (5, .int ((nI (n - i)) - (nI 1)))]) hx hb dL_walk_110 rfl hl (by decide) rfl (fun ls hl => ?_)
        refine lv_iload_n hx hb dL_walk_111 rfl (lv_at hl 3 rfl) ?_
        refine lv_iconst (v := (nI 1)) hx hb dL_walk_112 (by decide) ?_
        refine lv_iload hx hb dL_walk_113 (lv_at hl 4 rfl) ?_
        refine lv_ishl hx hb dL_walk_115 ?_
        rw [show (((nI 1) <<< ((nI (hotF n (nwF wa) t n)) &&& 31)) : Int32) = (nI (2 ^ hotF n (nwF wa) t n)) from shl_n _ (by omega)]
        refine nv_isub hx hb dL_walk_116 (by omega) ?_
        refine lv_istore_n (lv' := [(1, .int (nI ((lfN n (nwF wa) t) - (2 ^ hotF n (nwF wa) t n)))), (2, .int (nI (hotF n (nwF wa) t n))), (3, .int (nI (wkF n (nwF wa) t + ((hotF n (nwF wa) t n) - (wkP n (nwF wa) t))))), (0, .ref p0), (4, .int (nI (hotF n (nwF wa) t n))), (5, .int ((nI (n - i)) - (nI 1)))]) hx hb dL_walk_117 rfl hl (by decide) rfl (fun ls hl => ?_)
        refine lv_goto (tgt := 12) hx hb dL_walk_118 (by decide) ?_
        exact ih_12 _ (by omega) (trivial) (by show lv_has ls 7 [(0, .ref p0), (1, .int (nI (lfN n (nwF wa) (t + 1)))), (2, .int (nI (wkP n (nwF wa) (t + 1)))), (3, .int (nI (wkF n (nwF wa) (t + 1))))]; rw [show (lfN n (nwF wa) (t + 1)) = (lfN n (nwF wa) t) - (2 ^ hotF n (nwF wa) t n) from (by rw [hls]; omega), show (wkP n (nwF wa) (t + 1)) = hotF n (nwF wa) t n from rfl, show (wkF n (nwF wa) (t + 1)) = wkF n (nwF wa) t + ((hotF n (nwF wa) t n) - (wkP n (nwF wa) t)) from (by show wkF n (nwF wa) t + dstF (hotF n (nwF wa) t n) (wkP n (nwF wa) t) = _; unfold dstF; rw [if_pos (by omega)])]; exact lv_sub hl [3, 0, 1, 2] rfl)
    · skip
      obtain ⟨k, ek⟩ := sub1_pos (by omega) c_28
      rw [show (nI (n - i)) - (nI 1) = nI k from by rw [ek]; exact sub1_s k] at hl
      refine lv_iload_n hx hb dL_walk_31 rfl (lv_at hl 1 rfl) ?_
      refine lv_iload hx hb dL_walk_32 (lv_at hl 5 rfl) ?_
      refine lv_ishr hx hb dL_walk_34 ?_
      refine lv_iconst (v := (nI 1)) hx hb dL_walk_35 (by decide) ?_
      refine lv_iand hx hb dL_walk_36 ?_
      refine lv_iconst (v := (nI 1)) hx hb dL_walk_37 (by decide) ?_
      refine lv_icmp_ne (tgt := 45) hx hb dL_walk_38 (by decide) (fun c_38 => ?_) (fun c_38 => ?_)
      · skip
        refine lv_iconst (v := (nI 0)) hx hb dL_walk_45 (by decide) ?_
        refine lv_istore (lv' := [(6, .int (nI 0)), (0, .ref p0), (1, .int (nI (lfN n (nwF wa) t))), (2, .int (nI (wkP n (nwF wa) t))), (3, .int (nI (wkF n (nwF wa) t))), (4, .int (o2i (lbN (nwF wa) (lfP n (nwF wa) t) n i))), (5, .int (nI k))]) hx hb dL_walk_46 hl (by decide) rfl (fun ls hl => ?_)
        refine lv_iload hx hb dL_walk_48 (lv_at hl 0 rfl) ?_
        refine nv_if_eq (tgt := 78) hx hb dL_walk_50 (by omega) (by decide) (fun c_50 => ?_) (fun c_50 => ?_)
        · skip
          refine lv_iload hx hb dL_walk_78 (lv_at hl 5 rfl) ?_
          refine lv_istore (lv' := [(4, .int (o2i (lbN (nwF wa) (lfP n (nwF wa) t) n i))), (6, .int (nI 0)), (0, .ref p0), (1, .int (nI (lfN n (nwF wa) t))), (2, .int (nI (wkP n (nwF wa) t))), (3, .int (nI (wkF n (nwF wa) t))), (5, .int (nI k))]) hx hb dL_walk_80 hl (by decide) rfl (fun ls hl => ?_)
          refine lv_iinc (v := ((nI k) + Int32.ofInt (-1))) (lv' := [(5, .int ((nI k) + Int32.ofInt (-1))), (4, .int (o2i (lbN (nwF wa) (lfP n (nwF wa) t) n i))), (6, .int (nI 0)), (0, .ref p0), (1, .int (nI (lfN n (nwF wa) t))), (2, .int (nI (wkP n (nwF wa) t))), (3, .int (nI (wkF n (nwF wa) t)))]) hx hb dL_walk_82 hl (k := 6) rfl rfl (by decide) rfl (fun ls hl => ?_)
          refine lv_goto (tgt := 26) hx hb dL_walk_85 (by decide) ?_
          exact ih_26 _ (by omega) (trivial) (by show lv_has ls 7 [(0, .ref p0), (1, .int (nI (lfN n (nwF wa) t))), (2, .int (nI (wkP n (nwF wa) t))), (3, .int (nI (wkF n (nwF wa) t))), (4, .int (o2i (lbN (nwF wa) (lfP n (nwF wa) t) n (i + 1)))), (5, .int ((nI (n - (i + 1))) - (nI 1)))]; rw [show (o2i (lbN (nwF wa) (lfP n (nwF wa) t) n (i + 1))) = o2i (lbN (nwF wa) (lfP n (nwF wa) t) n i) from (congrArg o2i (lb_f ek (fun q => c_38 ((bit_is _ (lfN_64 hn6) k (by omega)).mpr ((lfN_bit (by omega)).trans q))))), show ((nI (n - (i + 1))) - (nI 1)) = (nI k) + Int32.ofInt (-1) from (by rw [show n - (i + 1) = k by omega]; exact (dec_eq k).symm)]; exact lv_sub hl [3, 4, 5, 6, 1, 0] rfl)
        · exact absurd rfl c_50
      · skip
        refine lv_iconst (v := (nI 1)) hx hb dL_walk_41 (by decide) ?_
        refine lv_goto (tgt := 46) hx hb dL_walk_42 (by decide) ?_
        refine lv_istore (lv' := [(6, .int (nI 1)), (0, .ref p0), (1, .int (nI (lfN n (nwF wa) t))), (2, .int (nI (wkP n (nwF wa) t))), (3, .int (nI (wkF n (nwF wa) t))), (4, .int (o2i (lbN (nwF wa) (lfP n (nwF wa) t) n i))), (5, .int (nI k))]) hx hb dL_walk_46 hl (by decide) rfl (fun ls hl => ?_)
        refine lv_iload hx hb dL_walk_48 (lv_at hl 0 rfl) ?_
        refine nv_if_eq (tgt := 78) hx hb dL_walk_50 (by omega) (by decide) (fun c_50 => ?_) (fun c_50 => ?_)
        · exact absurd c_50 (by decide)
        · skip
          refine lv_iload hx hb dL_walk_53 (lv_at hl 5 rfl) ?_
          refine lv_if_lt (tgt := 73) hx hb dL_walk_55 (by decide) (fun c_55 => ?_) (fun c_55 => ?_)
          · skip
            refine lv_iload hx hb dL_walk_73 (lv_at hl 6 rfl) ?_
            refine lv_goto (tgt := 80) hx hb dL_walk_75 (by decide) ?_
            refine lv_istore (lv' := [(4, .int (nI k)), (6, .int (nI 1)), (0, .ref p0), (1, .int (nI (lfN n (nwF wa) t))), (2, .int (nI (wkP n (nwF wa) t))), (3, .int (nI (wkF n (nwF wa) t))), (5, .int (nI k))]) hx hb dL_walk_80 hl (by decide) rfl (fun ls hl => ?_)
            refine lv_iinc (v := ((nI k) + Int32.ofInt (-1))) (lv' := [(5, .int ((nI k) + Int32.ofInt (-1))), (4, .int (nI k)), (6, .int (nI 1)), (0, .ref p0), (1, .int (nI (lfN n (nwF wa) t))), (2, .int (nI (wkP n (nwF wa) t))), (3, .int (nI (wkF n (nwF wa) t)))]) hx hb dL_walk_82 hl (k := 6) rfl rfl (by decide) rfl (fun ls hl => ?_)
            refine lv_goto (tgt := 26) hx hb dL_walk_85 (by decide) ?_
            exact ih_26 _ (by omega) (trivial) (by show lv_has ls 7 [(0, .ref p0), (1, .int (nI (lfN n (nwF wa) t))), (2, .int (nI (wkP n (nwF wa) t))), (3, .int (nI (wkF n (nwF wa) t))), (4, .int (o2i (lbN (nwF wa) (lfP n (nwF wa) t) n (i + 1)))), (5, .int ((nI (n - (i + 1))) - (nI 1)))]; rw [show ((o2i (lbN (nwF wa) (lfP n (nwF wa) t) n (i + 1)))) = (nI k) from (by rw [lb_t ek ((lfN_bit (by omega)).symm.trans ((bit_is _ (lfN_64 hn6) k (by omega)).mp c_38)) (by rw [o2i_neg c_55 (fun b h => by have := lbN_lt (by omega) h; omega)]; rfl)]; rfl), show ((nI (n - (i + 1))) - (nI 1)) = (nI k) + Int32.ofInt (-1) from (by rw [show n - (i + 1) = k by omega]; exact (dec_eq k).symm)]; exact lv_sub hl [3, 4, 5, 6, 1, 0] rfl)
          · skip
            obtain ⟨b, eb⟩ := o2i_nn c_55
            have hbn := lbN_lt (by omega) eb
            rw [show o2i (lbN (nwF wa) (lfP n (nwF wa) t) n i) = nI b from by rw [eb]; rfl] at hl
            refine lv_aload_n hx hb dL_walk_58 rfl (lv_at hl 1 rfl) ?_
            refine lv_iload hx hb dL_walk_59 (lv_at hl 6 rfl) ?_
            have hP_1 := hP.sub (ws' := [(p0, .inl (cI, 21, .inl wa))]) [0] rfl
            refine rdS (As := [.ref p0, .int (nI k)]) (rest := []) hx hb hml hown hg (c_L_now l D cI cB aS p0 wa k (by first | assumption | omega)) gm_318 sf_L_now ⟨Nat.le_of_ble_eq_true rfl, Nat.le_of_ble_eq_true rfl⟩ ⟨rfl, rfl⟩ ⟨Nat.zero_le _, Nat.zero_le _⟩ (RP.preS hK hP_1) rfl hl.1 rfl (Nat.le_of_ble_eq_true rfl) dL_walk_61 ?_
            refine lv_aload_n hx hb dL_walk_64 rfl (lv_at hl 1 rfl) ?_
            refine lv_iload hx hb dL_walk_65 (lv_at hl 5 rfl) ?_
            have hP_2 := hP.sub (ws' := [(p0, .inl (cI, 21, .inl wa))]) [0] rfl
            refine rdS (As := [.ref p0, .int (nI b)]) (rest := [.int (nwF wa k)]) hx hb hml hown hg (c_L_now l D cI cB aS p0 wa b (by first | assumption | omega)) gm_318 sf_L_now ⟨Nat.le_of_ble_eq_true rfl, Nat.le_of_ble_eq_true rfl⟩ ⟨rfl, rfl⟩ ⟨Nat.zero_le _, Nat.zero_le _⟩ (RP.preS hK hP_2) rfl hl.1 rfl (Nat.le_of_ble_eq_true rfl) dL_walk_67 ?_
            refine lv_icmp_gt (tgt := 78) hx hb dL_walk_70 (by decide) (fun c_70 => ?_) (fun c_70 => ?_)
            · skip
              refine lv_iload hx hb dL_walk_78 (lv_at hl 5 rfl) ?_
              refine lv_istore (lv' := [(4, .int (nI b)), (6, .int (nI 1)), (0, .ref p0), (1, .int (nI (lfN n (nwF wa) t))), (2, .int (nI (wkP n (nwF wa) t))), (3, .int (nI (wkF n (nwF wa) t))), (5, .int (nI k))]) hx hb dL_walk_80 hl (by decide) rfl (fun ls hl => ?_)
              refine lv_iinc (v := ((nI k) + Int32.ofInt (-1))) (lv' := [(5, .int ((nI k) + Int32.ofInt (-1))), (4, .int (nI b)), (6, .int (nI 1)), (0, .ref p0), (1, .int (nI (lfN n (nwF wa) t))), (2, .int (nI (wkP n (nwF wa) t))), (3, .int (nI (wkF n (nwF wa) t)))]) hx hb dL_walk_82 hl (k := 6) rfl rfl (by decide) rfl (fun ls hl => ?_)
              refine lv_goto (tgt := 26) hx hb dL_walk_85 (by decide) ?_
              exact ih_26 _ (by omega) (trivial) (by show lv_has ls 7 [(0, .ref p0), (1, .int (nI (lfN n (nwF wa) t))), (2, .int (nI (wkP n (nwF wa) t))), (3, .int (nI (wkF n (nwF wa) t))), (4, .int (o2i (lbN (nwF wa) (lfP n (nwF wa) t) n (i + 1)))), (5, .int ((nI (n - (i + 1))) - (nI 1)))]; rw [show ((o2i (lbN (nwF wa) (lfP n (nwF wa) t) n (i + 1)))) = (nI b) from (by rw [lb_g ek (by rw [eb]; exact fun q => absurd (of_decide_eq_true q) (Int32.not_le.mpr c_70)), eb]; rfl), show ((nI (n - (i + 1))) - (nI 1)) = (nI k) + Int32.ofInt (-1) from (by rw [show n - (i + 1) = k by omega]; exact (dec_eq k).symm)]; exact lv_sub hl [3, 4, 5, 6, 1, 0] rfl)
            · skip
              refine lv_iload hx hb dL_walk_73 (lv_at hl 6 rfl) ?_
              refine lv_goto (tgt := 80) hx hb dL_walk_75 (by decide) ?_
              refine lv_istore (lv' := [(4, .int (nI k)), (6, .int (nI 1)), (0, .ref p0), (1, .int (nI (lfN n (nwF wa) t))), (2, .int (nI (wkP n (nwF wa) t))), (3, .int (nI (wkF n (nwF wa) t))), (5, .int (nI k))]) hx hb dL_walk_80 hl (by decide) rfl (fun ls hl => ?_)
              refine lv_iinc (v := ((nI k) + Int32.ofInt (-1))) (lv' := [(5, .int ((nI k) + Int32.ofInt (-1))), (4, .int (nI k)), (6, .int (nI 1)), (0, .ref p0), (1, .int (nI (lfN n (nwF wa) t))), (2, .int (nI (wkP n (nwF wa) t))), (3, .int (nI (wkF n (nwF wa) t)))]) hx hb dL_walk_82 hl (k := 6) rfl rfl (by decide) rfl (fun ls hl => ?_)
              refine lv_goto (tgt := 26) hx hb dL_walk_85 (by decide) ?_
              exact ih_26 _ (by omega) (trivial) (by show lv_has ls 7 [(0, .ref p0), (1, .int (nI (lfN n (nwF wa) t))), (2, .int (nI (wkP n (nwF wa) t))), (3, .int (nI (wkF n (nwF wa) t))), (4, .int (o2i (lbN (nwF wa) (lfP n (nwF wa) t) n (i + 1)))), (5, .int ((nI (n - (i + 1))) - (nI 1)))]; rw [show ((o2i (lbN (nwF wa) (lfP n (nwF wa) t) n (i + 1)))) = (nI k) from (by rw [lb_t ek ((lfN_bit (by omega)).symm.trans ((bit_is _ (lfN_64 hn6) k (by omega)).mp c_38)) (by rw [eb]; exact decide_eq_true (Int32.not_lt.mp c_70))]; rfl), show ((nI (n - (i + 1))) - (nI 1)) = (nI k) + Int32.ofInt (-1) from (by rw [show n - (i + 1) = k by omega]; exact (dec_eq k).symm)]; exact lv_sub hl [3, 4, 5, 6, 1, 0] rfl)
abbrev rm_L_numbers : Room := { frames := 2, cells := 0, slots := 0, locals := 42 }
set_option maxRecDepth 100000 in
set_option maxHeartbeats 4000000 in
theorem c_L_numbers (l : Launch) (D : va_G) (cI cB : ClassId) (aS : Nat) (p0 : Nat) (wa : Nat → Int32) (n : Nat) (hw0 : wa 0 = nI n) (hn6 : n ≤ 6) : Met l yL_numbers (mw yL_numbers cL_numbers 3 (some .int)) rm_L_numbers (RP D cI cB aS ([(p0, .inl (cI, 21, .inl wa))]) [.ref p0]) (vp_Si (fun r => r = (sm (nwF wa) n))) 0 0 (fun _ => False) := by
  refine met_of (by decide) (Nat.le_of_ble_eq_true rfl) ?_
  intro p e s m below meth c ls hx hb hr hml hown hg hlocks hin hK hP hl
  have hown : s.vm.findClass RL = some m.cls := hown
  have hl : lv_has ls 3 [(0, .ref p0)] := hl
  refine lv_iconst (v := (nI 0)) hx hb dL_numbers_0 (by decide) ?_
  refine lv_istore_n (lv' := [(1, .int (nI 0)), (0, .ref p0)]) hx hb dL_numbers_1 rfl hl (by decide) rfl (fun ls hl => ?_)
  refine lv_iconst (v := (nI 0)) hx hb dL_numbers_2 (by decide) ?_
  refine lv_istore_n (lv' := [(2, .int (nI 0)), (1, .int (nI 0)), (0, .ref p0)]) hx hb dL_numbers_3 rfl hl (by decide) rfl (fun ls hl => ?_)
  -- loop at 4
  refine loopR (nL := 3) (B := n) (I := fun i => True) (lv := fun i => [(0, .ref p0), (1, .int (sm (nwF wa) i)), (2, .int (nI i))]) 0 (Nat.zero_le _) (trivial) (by show lv_has ls 3 [(0, .ref p0), (1, .int (sm (nwF wa) 0)), (2, .int (nI 0))]; exact lv_sub hl [2, 1, 0] rfl) (fun i ls hj hI hl ih => ?_)
  have hl : lv_has ls 3 [(0, .ref p0), (1, .int (sm (nwF wa) i)), (2, .int (nI i))] := hl
  have ih_4 := ih
  refine lv_iload_n hx hb dL_numbers_4 rfl (lv_at hl 2 rfl) ?_
  refine lv_aload_n hx hb dL_numbers_5 rfl (lv_at hl 0 rfl) ?_
  refine lv_iconst (v := (nI 0)) hx hb dL_numbers_6 (by decide) ?_
  refine nv_iald hx hb hK.1 hP 0 0 rfl rfl (by omega) (by omega) dL_numbers_7 ?_
  rw [show ((wa 0) : Int32) = (nI n) from hw0]
  refine nv_icmp_ge (tgt := 25) hx hb dL_numbers_8 (by omega) (by omega) (by decide) (fun c_8 => ?_) (fun c_8 => ?_)
  · skip
    refine lv_iload_n hx hb dL_numbers_25 rfl (lv_at hl 1 rfl) ?_
    exact rr_i hx hb hr hlocks dL_numbers_26 (by rw [show i = n by omega])
  · skip
    refine lv_iload_n hx hb dL_numbers_11 rfl (lv_at hl 1 rfl) ?_
    refine lv_aload_n hx hb dL_numbers_12 rfl (lv_at hl 0 rfl) ?_
    refine lv_iload_n hx hb dL_numbers_13 rfl (lv_at hl 2 rfl) ?_
    have hP_1 := hP.sub (ws' := [(p0, .inl (cI, 21, .inl wa))]) [0] rfl
    refine rdS (As := [.ref p0, .int (nI i)]) (rest := [.int (sm (nwF wa) i)]) hx hb hml hown hg (c_L_now l D cI cB aS p0 wa i (by first | assumption | omega)) gm_318 sf_L_now ⟨Nat.le_of_ble_eq_true rfl, Nat.le_of_ble_eq_true rfl⟩ ⟨rfl, rfl⟩ ⟨Nat.zero_le _, Nat.zero_le _⟩ (RP.preS hK hP_1) rfl hl.1 rfl (Nat.le_of_ble_eq_true rfl) dL_numbers_14 ?_
    refine lv_iadd hx hb dL_numbers_17 ?_
    refine lv_istore_n (lv' := [(1, .int ((sm (nwF wa) i) + (nwF wa i))), (0, .ref p0), (2, .int (nI i))]) hx hb dL_numbers_18 rfl hl (by decide) rfl (fun ls hl => ?_)
    refine lv_iinc (v := (nI (i + 1))) (lv' := [(2, .int (nI (i + 1))), (1, .int ((sm (nwF wa) i) + (nwF wa i))), (0, .ref p0)]) hx hb dL_numbers_19 hl (k := 2) rfl (nI_i1 _) (by decide) rfl (fun ls hl => ?_)
    refine lv_goto (tgt := 4) hx hb dL_numbers_22 (by decide) ?_
    exact ih_4 _ (by omega) (trivial) (by show lv_has ls 3 [(0, .ref p0), (1, .int (sm (nwF wa) (i + 1))), (2, .int (nI (i + 1)))]; rw [show (sm (nwF wa) (i + 1)) = (sm (nwF wa) i) + (nwF wa i) from rfl]; exact lv_sub hl [2, 1, 0] rfl)
abbrev rm_L_copy : Room := { frames := 0, cells := 0, slots := 0, locals := 0 }
set_option maxRecDepth 100000 in
set_option maxHeartbeats 4000000 in
theorem c_L_copy (l : Launch) (D : va_G) (cI cB : ClassId) (aS : Nat) (p0 p1 : Nat) (wa wc : Nat → Int32) (hD0 : va_D (fun _ => True) ([(p0, .inl (cI, 21, .inl wa)), (p1, .inl (cI, 21, .inl wc))])) : Met l yL_copy (mw yL_copy cL_copy 3 none) rm_L_copy (RP D cI cB aS ([(p0, .inl (cI, 21, .inl wa)), (p1, .inl (cI, 21, .inl wc))]) [.ref p0, .ref p1]) (wq mkV ([(p0, .inl (cI, 21, .inl wa)), (p1, .inl (cI, 21, .inl wc))]) (fun (_ : Unit) => [(p0, .inl (cI, 21, .inl wa)), (p1, .inl (cI, 21, .inl wa))]) D (fun (_ : Unit) (_ : Unit) => True)) 0 0 (inW ([(p0, .inl (cI, 21, .inl wa)), (p1, .inl (cI, 21, .inl wc))])) := by
  refine met_of (by decide) (Nat.le_of_ble_eq_true rfl) ?_
  intro p e s m below meth c ls hx hb hr hml hown hg hlocks hin hK hP hl
  have hown : s.vm.findClass RL = some m.cls := hown
  have hl : lv_has ls 3 [(0, .ref p0), (1, .ref p1)] := hl
  have hD := hD0.here
  have hS0 : va_S (inW ([(p0, .inl (cI, 21, .inl wa)), (p1, .inl (cI, 21, .inl wc))])) s.heap s.heap [] := va_S.rf
  obtain ⟨H, hH⟩ : ∃ H, H = s.heap := ⟨_, rfl⟩
  have hS : va_S (inW ([(p0, .inl (cI, 21, .inl wa)), (p1, .inl (cI, 21, .inl wc))])) s.heap H [] := by rw [hH]; exact hS0
  clear hS0
  rw [← hH] at hP ⊢
  generalize hAe : inW ([(p0, .inl (cI, 21, .inl wa)), (p1, .inl (cI, 21, .inl wc))]) = A at hD hS ⊢
  refine lv_iconst (v := (nI 0)) hx hb dL_copy_0 (by decide) ?_
  refine lv_istore_n (lv' := [(2, .int (nI 0)), (0, .ref p0), (1, .ref p1)]) hx hb dL_copy_1 rfl hl (by decide) rfl (fun ls hl => ?_)
  -- loop at 2
  refine loopW (nL := 3) (S := Unit) (B := 21) (I := fun i u => True) (lv := fun i u => [(0, .ref p0), (1, .ref p1), (2, .int (nI i))]) (wf := fun i u => [(p0, .inl (cI, 21, .inl wa)), (p1, .inl (cI, 21, .inl (cpF wa wc i)))]) 0 () (Nat.zero_le _) (trivial) (lv_sub hl [1, 2, 0] rfl) (by show va_P D vwCl ([(p0, .inl (cI, 21, .inl wa)), (p1, .inl (cI, 21, .inl (cpF wa wc 0)))]) H; rw [cpF_0]; exact hP) (hD.addr rfl) hS (fun i u ls H locs hj hI hl hP hD hS ih => ?_)
  have hP : va_P D vwCl ([(p0, .inl (cI, 21, .inl wa)), (p1, .inl (cI, 21, .inl (cpF wa wc i)))]) H := hP
  have hD : va_D A ([(p0, .inl (cI, 21, .inl wa)), (p1, .inl (cI, 21, .inl (cpF wa wc i)))]) := hD
  have hl : lv_has ls 3 [(0, .ref p0), (1, .ref p1), (2, .int (nI i))] := hl
  have ih_2 := ih
  refine lv_iload_n hx hb dL_copy_2 rfl (lv_at hl 2 rfl) ?_
  refine lv_bipush (v := (nI 21)) hx hb dL_copy_3 (by decide) ?_
  refine nv_icmp_ge (tgt := 20) hx hb dL_copy_5 (by omega) (by omega) (by decide) (fun c_5 => ?_) (fun c_5 => ?_)
  · skip
    have hP : va_P D vwCl ([(p0, .inl (cI, 21, .inl wa)), (p1, .inl (cI, 21, .inl wa))]) H := P_congr (g := wa) hP 1 rfl (fun j hj => cpF_at (by omega))
    have hD : va_D A ([(p0, .inl (cI, 21, .inl wa)), (p1, .inl (cI, 21, .inl wa))]) := hD.addr rfl
    subst hAe
    exact wr_v (w1 := fun (_ : Unit) => [(p0, .inl (cI, 21, .inl wa)), (p1, .inl (cI, 21, .inl wa))]) hx hb hr hlocks hS () hP dL_copy_20 trivial
  · skip
    refine lv_aload_n hx hb dL_copy_8 rfl (lv_at hl 1 rfl) ?_
    refine lv_iload_n hx hb dL_copy_9 rfl (lv_at hl 2 rfl) ?_
    refine lv_aload_n hx hb dL_copy_10 rfl (lv_at hl 0 rfl) ?_
    refine lv_iload_n hx hb dL_copy_11 rfl (lv_at hl 2 rfl) ?_
    refine nv_iald hx hb hK.1 hP 0 0 rfl rfl (by omega) (by omega) dL_copy_12 ?_
    refine nv_iast hx hb hK.1 hP hD hS 1 0 rfl rfl (by omega) (by omega) dL_copy_13 (fun H locs hP hD hS => ?_)
    have hP : va_P D vwCl ([(p0, .inl (cI, 21, .inl wa)), (p1, .inl (cI, 21, .inl (upd (cpF wa wc i) i (wa i))))]) H := hP
    have hD : va_D A ([(p0, .inl (cI, 21, .inl wa)), (p1, .inl (cI, 21, .inl (upd (cpF wa wc i) i (wa i))))]) := hD
    have e_1 : upd (cpF wa wc i) i (wa i) = cpF wa wc (i + 1) := cpF_s rfl
    rw [e_1] at hP hD
    have hP : va_P D vwCl ([(p0, .inl (cI, 21, .inl wa)), (p1, .inl (cI, 21, .inl (cpF wa wc (i + 1))))]) H := hP
    have hD : va_D A ([(p0, .inl (cI, 21, .inl wa)), (p1, .inl (cI, 21, .inl (cpF wa wc (i + 1))))]) := hD
    refine lv_iinc (v := (nI (i + 1))) (lv' := [(2, .int (nI (i + 1))), (0, .ref p0), (1, .ref p1)]) hx hb dL_copy_14 hl (k := 2) rfl (nI_i1 _) (by decide) rfl (fun ls hl => ?_)
    refine lv_goto (tgt := 2) hx hb dL_copy_17 (by decide) ?_
    exact ih_2 () _ _ _ (by omega) (trivial) (lv_sub hl [1, 2, 0] rfl) hP (hD.addr rfl) hS
abbrev rm_L_put : Room := { frames := 2, cells := 0, slots := 0, locals := 43 }
theorem vf_X2_letter : vfacts RX2 yX2_letter cX2_letter 2 (some .int) 1 := ⟨⟨rfl, by decide +kernel, by decide +kernel, by decide +kernel⟩, gm_241, gm_242, gm_2, gm_243⟩
set_option maxRecDepth 100000 in
set_option maxHeartbeats 4000000 in
theorem c_L_put (l : Launch) (D : va_G) (cI cB : ClassId) (aS : Nat) (a : Nat → Nat) (pl n st : Nat) (ik : Int32) (td nd nh : Nat) (bs : Int32) (ktd knd knh : Nat) (kbs : Int32) (pg kd ag pa bo dm dn hh hn kag kpa kbo kdm kdn khh khn wb ps ty : Nat → Int32) (x : Nat) (hD0 : va_D (fun _ => True) (XW cI a pl n st ik td nd nh bs ktd knd knh kbs pg kd ag pa bo dm dn hh hn kag kpa kbo kdm kdn khh khn wb ps ty)) (qpl : pl < 19) (q1 : 32 ≤ x) (q2 : x ≤ 126) : Met l yL_put (mw yL_put cL_put 2 (some .boolean)) rm_L_put (RP D cI cB aS (XW cI a pl n st ik td nd nh bs ktd knd knh kbs pg kd ag pa bo dm dn hh hn kag kpa kbo kdm kdn khh khn wb ps ty) [.ref (a 0), .int (nI x)]) (wq mkI (XW cI a pl n st ik td nd nh bs ktd knd knh kbs pg kd ag pa bo dm dn hh hn kag kpa kbo kdm kdn khh khn wb ps ty) (fun (_ : Unit) => XW cI a (pl + 1) n st ik td nd nh bs ktd knd knh kbs (upd pg pl (nI x)) kd ag pa bo dm dn hh hn kag kpa kbo kdm kdn khh khn wb ps ty) D (fun (r : Int32) (_ : Unit) => r = (nI 1))) 0 0 (inW (XW cI a pl n st ik td nd nh bs ktd knd knh kbs pg kd ag pa bo dm dn hh hn kag kpa kbo kdm kdn khh khn wb ps ty)) := by
  refine met_of (by decide) (Nat.le_of_ble_eq_true rfl) ?_
  intro p e s m below meth c ls hx hb hr hml hown hg hlocks hin hK hP hl
  have hown : s.vm.findClass RL = some m.cls := hown
  have hl : lv_has ls 2 [(0, .ref (a 0)), (1, .int (nI x))] := hl
  have hD := hD0.here
  have hS0 : va_S (inW (XW cI a pl n st ik td nd nh bs ktd knd knh kbs pg kd ag pa bo dm dn hh hn kag kpa kbo kdm kdn khh khn wb ps ty)) s.heap s.heap [] := va_S.rf
  obtain ⟨H, hH⟩ : ∃ H, H = s.heap := ⟨_, rfl⟩
  have hS : va_S (inW (XW cI a pl n st ik td nd nh bs ktd knd knh kbs pg kd ag pa bo dm dn hh hn kag kpa kbo kdm kdn khh khn wb ps ty)) s.heap H [] := by rw [hH]; exact hS0
  clear hS0
  rw [← hH] at hP ⊢
  generalize hAe : inW (XW cI a pl n st ik td nd nh bs ktd knd knh kbs pg kd ag pa bo dm dn hh hn kag kpa kbo kdm kdn khh khn wb ps ty) = A at hD hS ⊢
  refine lv_aload_n hx hb dL_put_0 rfl (lv_at hl 0 rfl) ?_
  refine lv_iload_n hx hb dL_put_1 rfl (lv_at hl 1 rfl) ?_
  refine wrVi (As := [.int (nI x)]) (rest := []) hx hb hml hown hg (c_X2_letter l D cI cB aS _ pl n st ik td nd nh bs ktd knd knh kbs pg kd ag pa bo dm dn hh hn kag kpa kbo kdm kdn khh khn wb ps ty (nI x) (hD.weaken (fun _ _ _ _ => trivial)) (by omega)) gm_240 vf_X2_letter ⟨Nat.le_of_ble_eq_true rfl, Nat.le_of_ble_eq_true rfl⟩ ⟨rfl, rfl⟩ ⟨Nat.zero_le _, Nat.zero_le _⟩ (RP.preV hK hP (q0 := 0) (ci := 2) XW_g0 rfl) rfl hl.1 rfl (Nat.le_of_ble_eq_true rfl) dL_put_2 hS (inW_all hD) (fun r_1 u_1 H1 locs hpo_1 hP1 hk1 hS => ?_)
  have er_1 : r_1 = (nI (pl + 1)) := congrArg Prod.fst (hpo_1.trans (let_9 qpl q1 q2))
  have eu_1 : u_1 = (upd pg pl (nI x), pl + 1) := congrArg Prod.snd (hpo_1.trans (let_9 qpl q1 q2))
  subst eu_1
  subst er_1
  have hP : va_P D vwCl (XW cI a (pl + 1) n st ik td nd nh bs ktd knd knh kbs (upd pg pl (nI x)) kd ag pa bo dm dn hh hn kag kpa kbo kdm kdn khh khn wb ps ty) H1 := hP1
  have hD : va_D A (XW cI a (pl + 1) n st ik td nd nh bs ktd knd knh kbs (upd pg pl (nI x)) kd ag pa bo dm dn hh hn kag kpa kbo kdm kdn khh khn wb ps ty) := hD.addr (XW_addr.trans XW_addr.symm)
  clear hP1 hk1
  generalize H1 = H at hP hS ⊢
  refine nv_if_le (tgt := 12) hx hb dL_put_5 (by omega) (by decide) (fun c_5 => ?_) (fun c_5 => ?_)
  · exact absurd c_5 (by omega)
  · skip
    refine lv_iconst (v := (nI 1)) hx hb dL_put_8 (by decide) ?_
    refine lv_goto (tgt := 13) hx hb dL_put_9 (by decide) ?_
    subst hAe
    exact wr_z (w1 := fun (_ : Unit) => XW cI a (pl + 1) n st ik td nd nh bs ktd knd knh kbs (upd pg pl (nI x)) kd ag pa bo dm dn hh hn kag kpa kbo kdm kdn khh khn wb ps ty) hx hb hr hlocks hS nar_1 () hP dL_put_13 rfl
