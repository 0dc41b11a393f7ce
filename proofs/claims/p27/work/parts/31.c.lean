abbrev rm_X1_init (n : Nat) : Room := { frames := 1, cells := 1, slots := n, locals := 12 }
set_option maxRecDepth 100000 in
set_option maxHeartbeats 4000000 in
theorem c_X1_init (l : Launch) (D : va_G) (cI cB : ClassId) (aS : Nat) (h0 sz n : Nat) (hn : n < 1000) (hD0 : va_D (fun _ => True) [(h0, .inr (1, [.null]))]) : Met l yX1_init (mw yX1_init cX1_init 2 none) (rm_X1_init n) (RPZ D cI cB aS sz [(h0, .inr (1, [.null]))] [.ref h0, .int (nI n)]) (cqv D sz [(h0, .inr (1, [.null]))] (fun (u : Nat) => [(h0, .inr (1, [.ref u])), (u, .inl (cI, n, .inl (fun _ => nI 0)))]) (fun (u : Nat) => True)) 1 n (va_A [(h0, .inr (1, [.null]))] sz) := by
  refine met_ofC (by decide) (Nat.le_of_ble_eq_true rfl) ?_
  intro p e s m below meth c ls hx hb hr hml hown hg hlocks hin hK hsz hP hl
  have hown : s.vm.findClass RX1 = some m.cls := hown
  have hin : meth.name = "<init>" := hin rfl
  subst hsz
  have hD := hD0.self (sz := s.heap.size)
  generalize hAe : va_A [(h0, .inr (1, [.null]))] s.heap.size = A at hD ⊢
  have hA : ∀ q : Nat, s.heap.size ≤ q → A q := fun q h => by rw [← hAe]; exact Or.inr h
  have hS : va_S A s.heap s.heap [] := va_S.rf
  have hl : lv_has ls 2 [(0, .ref h0), (1, .int (nI n))] := hl
  have hP : va_P D vwCl [(h0, .inr (1, [.null]))] s.heap := hP
  refine lv_aload_n hx hb dX1_init_0 rfl (lv_at hl 0 rfl) ?_
  refine W.objInit hx hb hown (hg _ gm_23) (hg _ gm_16) (hg _ gm_17) rfl (by rw [hml]; exact hl.1) rfl dX1_init_1 (Nat.le_of_ble_eq_true rfl) (Nat.le_of_ble_eq_true rfl) ?_
  refine W.eq (g2 := F0 m 4 ls []) rfl ?_
  refine lv_aload_n hx hb dX1_init_4 rfl (lv_at hl 0 rfl) ?_
  refine lv_iload_n hx hb dX1_init_5 rfl (lv_at hl 1 rfl) ?_
  refine nv_if_ge (tgt := 13) hx hb dX1_init_6 (by omega) (by decide) ?_
  refine lv_iload_n hx hb dX1_init_13 rfl (lv_at hl 1 rfl) ?_
  have hby : n * componentBytes .int ≤ 536870912 := by show n * 4 ≤ _; omega
  refine va_newa (atype := .int) hx hb (hg _ gm_26) rfl hK.1 hP hD hS hA (n := nI n) (N' := n) (a0 := (n, .inl (fun _ => nI 0))) new_i (nI_pos (by omega)) (nI_clamp (by omega)) hby (Nat.le_of_ble_eq_true rfl) (by show 0 + n ≤ n; omega) dX1_init_14 (fun q1 cA H hK2 hP hD hS => ?_)
  have ecA := cI_eq hK.1 hK2
  rw [ecA] at hP hD
  clear ecA hK2
  have hP : va_P D vwCl [(h0, .inr (1, [.null])), (q1, .inl (cI, n, .inl (fun _ => nI 0)))] H := hP
  have hD : va_D A [(h0, .inr (1, [.null])), (q1, .inl (cI, n, .inl (fun _ => nI 0)))] := hD
  refine W.widen (k := 1) (n := n) (by omega) (by omega) ?_
  refine va_putF (D := D) (ci := 1) (v := .ref q1) (ty := .array .int) (C := RX1) (T := TX1) (N := 1) hx hb hg us_X1 tyX1 tyX1_ok nmX1 hown hK.1 hP hD hS 0 rfl rfl 0 (by decide) (hg _ gm_24) (fun _ h9 => h9) rfl hin rfl (by decide +kernel) rfl rfl (Nat.le_of_ble_eq_true rfl) dX1_init_16 (fun H locs hP hD hS => ?_)
  have hP : va_P D vwCl [(h0, .inr (1, [.ref q1])), (q1, .inl (cI, n, .inl (fun _ => nI 0)))] H := hP
  have hD : va_D A [(h0, .inr (1, [.ref q1])), (q1, .inl (cI, n, .inl (fun _ => nI 0)))] := hD
  have hP9 := hP.sub (ws' := (fun (u : Nat) => [(h0, .inr (1, [.ref u])), (u, .inl (cI, n, .inl (fun _ => nI 0)))]) q1) [0, 1] rfl
  have hD9 := hD.sub (ws' := (fun (u : Nat) => [(h0, .inr (1, [.ref u])), (u, .inl (cI, n, .inl (fun _ => nI 0)))]) q1) [0, 1] (by decide) rfl
  subst hAe
  exact W.vret hx hb hr (fun t ht hW => ⟨⟨q1, rfl, trivial, by rw [ht]; exact hP9, hD9⟩, hS.F ht⟩) hS.2.2 dX1_init_19
theorem if_X1_init : ifacts RX1 yX1_init cX1_init 2 1 := ⟨⟨rfl, by decide +kernel, by decide +kernel, by decide +kernel⟩, rfl, gm_21, gm_3, gm_22⟩
abbrev rm_X0_init : Room := { frames := 2, cells := 14, slots := 223, locals := 33 }
set_option maxRecDepth 100000 in
set_option maxHeartbeats 4000000 in
theorem c_X0_init (l : Launch) (D : va_G) (cI cB : ClassId) (aS : Nat) (h0 sz : Nat) (hD0 : va_D (fun _ => True) [(h0, .inr (0, [.int 0, .int 0, .int 0, .int 0, .null, .null, .null, .null, .null, .null, .null]))]) : Met l yX0_init (mw yX0_init cX0_init 1 none) (rm_X0_init) (RPZ D cI cB aS sz [(h0, .inr (0, [.int 0, .int 0, .int 0, .int 0, .null, .null, .null, .null, .null, .null, .null]))] [.ref h0]) (cqv D sz [(h0, .inr (0, [.int 0, .int 0, .int 0, .int 0, .null, .null, .null, .null, .null, .null, .null]))] (fun (u : Nat → Nat) => [(u 0, .inr (0, [.int (nI 0), .int (nI 0), .int (nI 0), .int (nI 0), .ref (u 1), .ref (u 2), .ref (u 3), .ref (u 4), .ref (u 5), .ref (u 6), .ref (u 7)])), (u 1, .inr (1, [.ref (u 8)])), (u 2, .inr (1, [.ref (u 9)])), (u 3, .inr (1, [.ref (u 10)])), (u 4, .inr (1, [.ref (u 11)])), (u 5, .inr (1, [.ref (u 12)])), (u 6, .inr (1, [.ref (u 13)])), (u 7, .inr (1, [.ref (u 14)])), (u 8, .inl (cI, 6, .inl (fun _ => nI 0))), (u 9, .inl (cI, 180, .inl (fun _ => nI 0))), (u 10, .inl (cI, 6, .inl (fun _ => nI 0))), (u 11, .inl (cI, 6, .inl (fun _ => nI 0))), (u 12, .inl (cI, 6, .inl (fun _ => nI 0))), (u 13, .inl (cI, 6, .inl (fun _ => nI 0))), (u 14, .inl (cI, 6, .inl (fun _ => nI 0)))]) (fun (u : Nat → Nat) => u 0 = h0)) 14 223 (va_A [(h0, .inr (0, [.int 0, .int 0, .int 0, .int 0, .null, .null, .null, .null, .null, .null, .null]))] sz) := by
  refine met_ofC (by decide) (Nat.le_of_ble_eq_true rfl) ?_
  intro p e s m below meth c ls hx hb hr hml hown hg hlocks hin hK hsz hP hl
  have hown : s.vm.findClass RX0 = some m.cls := hown
  have hin : meth.name = "<init>" := hin rfl
  subst hsz
  have hD := hD0.self (sz := s.heap.size)
  generalize hAe : va_A [(h0, .inr (0, [.int 0, .int 0, .int 0, .int 0, .null, .null, .null, .null, .null, .null, .null]))] s.heap.size = A at hD ⊢
  have hA : ∀ q : Nat, s.heap.size ≤ q → A q := fun q h => by rw [← hAe]; exact Or.inr h
  have hS : va_S A s.heap s.heap [] := va_S.rf
  have hl : lv_has ls 1 [(0, .ref h0)] := hl
  have hP : va_P D vwCl [(h0, .inr (0, [.int 0, .int 0, .int 0, .int 0, .null, .null, .null, .null, .null, .null, .null]))] s.heap := hP
  refine lv_aload_n hx hb dX0_init_0 rfl (lv_at hl 0 rfl) ?_
  refine W.objInit hx hb hown (hg _ gm_32) (hg _ gm_16) (hg _ gm_17) rfl (by rw [hml]; exact hl.1) rfl dX0_init_1 (Nat.le_of_ble_eq_true rfl) (Nat.le_of_ble_eq_true rfl) ?_
  refine W.eq (g2 := F0 m 4 ls []) rfl ?_
  refine lv_aload_n hx hb dX0_init_4 rfl (lv_at hl 0 rfl) ?_
  refine lv_iconst (v := nI 0) hx hb dX0_init_5 (by decide) ?_
  refine va_put (D := D) (ci := 0) (v := .int (nI 0)) (ty := .int) (C := RX0) (T := TX0) (N := 11) hx hb hg us_X0 tyX0 tyX0_ok nmX0 hown hK.1 hP hD hS 0 rfl rfl 0 (by decide) (hg _ gm_35) (fun _ h9 => h9) rfl (by decide +kernel) rfl rfl (Nat.le_of_ble_eq_true rfl) dX0_init_6 (fun H locs hP hD hS => ?_)
  have hP : va_P D vwCl [(h0, .inr (0, [.int (nI 0), .int 0, .int 0, .int 0, .null, .null, .null, .null, .null, .null, .null]))] H := hP
  have hD : va_D A [(h0, .inr (0, [.int (nI 0), .int 0, .int 0, .int 0, .null, .null, .null, .null, .null, .null, .null]))] := hD
  refine lv_aload_n hx hb dX0_init_9 rfl (lv_at hl 0 rfl) ?_
  refine lv_iconst (v := nI 0) hx hb dX0_init_10 (by decide) ?_
  refine va_put (D := D) (ci := 0) (v := .int (nI 0)) (ty := .int) (C := RX0) (T := TX0) (N := 11) hx hb hg us_X0 tyX0 tyX0_ok nmX0 hown hK.1 hP hD hS 0 rfl rfl 1 (by decide) (hg _ gm_37) (fun _ h9 => h9) rfl (by decide +kernel) rfl rfl (Nat.le_of_ble_eq_true rfl) dX0_init_11 (fun H locs hP hD hS => ?_)
  have hP : va_P D vwCl [(h0, .inr (0, [.int (nI 0), .int (nI 0), .int 0, .int 0, .null, .null, .null, .null, .null, .null, .null]))] H := hP
  have hD : va_D A [(h0, .inr (0, [.int (nI 0), .int (nI 0), .int 0, .int 0, .null, .null, .null, .null, .null, .null, .null]))] := hD
  refine lv_aload_n hx hb dX0_init_14 rfl (lv_at hl 0 rfl) ?_
  refine lv_iconst (v := nI 0) hx hb dX0_init_15 (by decide) ?_
  refine va_put (D := D) (ci := 0) (v := .int (nI 0)) (ty := .int) (C := RX0) (T := TX0) (N := 11) hx hb hg us_X0 tyX0 tyX0_ok nmX0 hown hK.1 hP hD hS 0 rfl rfl 2 (by decide) (hg _ gm_39) (fun _ h9 => h9) rfl (by decide +kernel) rfl rfl (Nat.le_of_ble_eq_true rfl) dX0_init_16 (fun H locs hP hD hS => ?_)
  have hP : va_P D vwCl [(h0, .inr (0, [.int (nI 0), .int (nI 0), .int (nI 0), .int 0, .null, .null, .null, .null, .null, .null, .null]))] H := hP
  have hD : va_D A [(h0, .inr (0, [.int (nI 0), .int (nI 0), .int (nI 0), .int 0, .null, .null, .null, .null, .null, .null, .null]))] := hD
  refine lv_aload_n hx hb dX0_init_19 rfl (lv_at hl 0 rfl) ?_
  refine lv_iconst (v := nI 0) hx hb dX0_init_20 (by decide) ?_
  refine va_put (D := D) (ci := 0) (v := .int (nI 0)) (ty := .int) (C := RX0) (T := TX0) (N := 11) hx hb hg us_X0 tyX0 tyX0_ok nmX0 hown hK.1 hP hD hS 0 rfl rfl 3 (by decide) (hg _ gm_41) (fun _ h9 => h9) rfl (by decide +kernel) rfl rfl (Nat.le_of_ble_eq_true rfl) dX0_init_21 (fun H locs hP hD hS => ?_)
  have hP : va_P D vwCl [(h0, .inr (0, [.int (nI 0), .int (nI 0), .int (nI 0), .int (nI 0), .null, .null, .null, .null, .null, .null, .null]))] H := hP
  have hD : va_D A [(h0, .inr (0, [.int (nI 0), .int (nI 0), .int (nI 0), .int (nI 0), .null, .null, .null, .null, .null, .null, .null]))] := hD
  refine lv_aload_n hx hb dX0_init_24 rfl (lv_at hl 0 rfl) ?_
  refine va_new (ci := 1) (fs := [.null]) (C := RX1) (T := TX1) (N := 1) hx hb hg us_X1 tyX1 tyX1_ok hown (hg _ gm_33) (hg _ gm_19) (hg _ gm_3) hK.1 hP hD hS hA rfl (fun j hj => by rcases (show j = 0 by omega) with rfl <;> rfl) (Nat.le_of_ble_eq_true rfl) (Nat.le_of_ble_eq_true rfl) dX0_init_25 (fun q1 H hP hD hS => ?_)
  have hP : va_P D vwCl [(h0, .inr (0, [.int (nI 0), .int (nI 0), .int (nI 0), .int (nI 0), .null, .null, .null, .null, .null, .null, .null])), (q1, .inr (1, [.null]))] H := hP
  have hD : va_D A [(h0, .inr (0, [.int (nI 0), .int (nI 0), .int (nI 0), .int (nI 0), .null, .null, .null, .null, .null, .null, .null])), (q1, .inr (1, [.null]))] := hD
  refine W.widen (k := 1) (n := 1) (by omega) (by omega) ?_
  refine lv_dup hx hb dX0_init_28 rfl ?_
  refine lv_bipush (v := nI 6) hx hb dX0_init_29 (by decide) ?_
  have hPc := hP.sub (ws' := [(q1, .inr (1, [.null]))]) [1] rfl
  have hDc := hD.sub (ws' := [(q1, .inr (1, [.null]))]) [1] (by decide) rfl
  have hFc := va_free (wc := [(q1, .inr (1, [.null]))]) hD hS hA [1] rfl
  refine va_callv (va_runI (As := [.int (nI 6)]) (rest := [.ref q1, .ref h0]) ⟨hx, hb, hml, hown, hg⟩ (c_X1_init l D cI cB aS q1 H.size 6 (by decide) (hDc.weaken (fun _ _ _ _ => trivial))) (cwI_of hg gm_34 if_X1_init rfl rfl ⟨Nat.le_of_ble_eq_true rfl, Nat.le_of_ble_eq_true rfl⟩) (RPZ.pre hK hPc) rfl rfl hl.1 rfl (lv_room (Nat.le_of_ble_eq_true rfl)) dX0_init_31 ⟨Nat.le_of_ble_eq_true rfl, Nat.le_of_ble_eq_true rfl⟩) hS (fun q _ h => hFc q h) hFc (fun u2 t H1 locs ht hvm hw hB hz1 hk1 hS => ?_)
  obtain ⟨hP1, hD1⟩ := hB
  rw [ht] at hP1
  obtain ⟨hP, hD⟩ := va_join (wr := [(h0, .inr (0, [.int (nI 0), .int (nI 0), .int (nI 0), .int (nI 0), .null, .null, .null, .null, .null, .null, .null]))]) (w1 := [(q1, .inr (1, [.ref u2])), (u2, .inl (cI, 6, .inl (fun _ => nI 0)))]) hP hD [1] [0] rfl rfl (by decide) (by decide) hk1 hFc hP1 hD1
  clear hP1 hD1 hk1 hFc hPc hDc
  generalize H1 = H at hP hS ⊢
  have hP : va_P D vwCl [(h0, .inr (0, [.int (nI 0), .int (nI 0), .int (nI 0), .int (nI 0), .null, .null, .null, .null, .null, .null, .null])), (q1, .inr (1, [.ref u2])), (u2, .inl (cI, 6, .inl (fun _ => nI 0)))] H := hP
  have hD : va_D A [(h0, .inr (0, [.int (nI 0), .int (nI 0), .int (nI 0), .int (nI 0), .null, .null, .null, .null, .null, .null, .null])), (q1, .inr (1, [.ref u2])), (u2, .inl (cI, 6, .inl (fun _ => nI 0)))] := hD
  refine W.widen (k := 2) (n := 7) (by omega) (by omega) ?_
  refine va_putF (D := D) (ci := 0) (v := .ref q1) (ty := .object "BirthStreet$Row") (C := RX0) (T := TX0) (N := 11) hx hb hg us_X0 tyX0 tyX0_ok nmX0 hown hK.1 hP hD hS 0 rfl rfl 4 (by decide) (hg _ gm_43) (fun _ h9 => h9) rfl hin rfl (by decide +kernel) rfl rfl (Nat.le_of_ble_eq_true rfl) dX0_init_34 (fun H locs hP hD hS => ?_)
  have hP : va_P D vwCl [(h0, .inr (0, [.int (nI 0), .int (nI 0), .int (nI 0), .int (nI 0), .ref q1, .null, .null, .null, .null, .null, .null])), (q1, .inr (1, [.ref u2])), (u2, .inl (cI, 6, .inl (fun _ => nI 0)))] H := hP
  have hD : va_D A [(h0, .inr (0, [.int (nI 0), .int (nI 0), .int (nI 0), .int (nI 0), .ref q1, .null, .null, .null, .null, .null, .null])), (q1, .inr (1, [.ref u2])), (u2, .inl (cI, 6, .inl (fun _ => nI 0)))] := hD
  refine lv_aload_n hx hb dX0_init_37 rfl (lv_at hl 0 rfl) ?_
  refine va_new (ci := 1) (fs := [.null]) (C := RX1) (T := TX1) (N := 1) hx hb hg us_X1 tyX1 tyX1_ok hown (hg _ gm_33) (hg _ gm_19) (hg _ gm_3) hK.1 hP hD hS hA rfl (fun j hj => by rcases (show j = 0 by omega) with rfl <;> rfl) (Nat.le_of_ble_eq_true rfl) (Nat.le_of_ble_eq_true rfl) dX0_init_38 (fun q3 H hP hD hS => ?_)
  have hP : va_P D vwCl [(h0, .inr (0, [.int (nI 0), .int (nI 0), .int (nI 0), .int (nI 0), .ref q1, .null, .null, .null, .null, .null, .null])), (q1, .inr (1, [.ref u2])), (u2, .inl (cI, 6, .inl (fun _ => nI 0))), (q3, .inr (1, [.null]))] H := hP
  have hD : va_D A [(h0, .inr (0, [.int (nI 0), .int (nI 0), .int (nI 0), .int (nI 0), .ref q1, .null, .null, .null, .null, .null, .null])), (q1, .inr (1, [.ref u2])), (u2, .inl (cI, 6, .inl (fun _ => nI 0))), (q3, .inr (1, [.null]))] := hD
  refine W.widen (k := 3) (n := 8) (by omega) (by omega) ?_
  refine lv_dup hx hb dX0_init_41 rfl ?_
  refine lv_sipush (v := nI 180) hx hb dX0_init_42 (by decide) ?_
  have hPc := hP.sub (ws' := [(q3, .inr (1, [.null]))]) [3] rfl
  have hDc := hD.sub (ws' := [(q3, .inr (1, [.null]))]) [3] (by decide) rfl
  have hFc := va_free (wc := [(q3, .inr (1, [.null]))]) hD hS hA [3] rfl
  refine va_callv (va_runI (As := [.int (nI 180)]) (rest := [.ref q3, .ref h0]) ⟨hx, hb, hml, hown, hg⟩ (c_X1_init l D cI cB aS q3 H.size 180 (by decide) (hDc.weaken (fun _ _ _ _ => trivial))) (cwI_of hg gm_34 if_X1_init rfl rfl ⟨Nat.le_of_ble_eq_true rfl, Nat.le_of_ble_eq_true rfl⟩) (RPZ.pre hK hPc) rfl rfl hl.1 rfl (lv_room (Nat.le_of_ble_eq_true rfl)) dX0_init_45 ⟨Nat.le_of_ble_eq_true rfl, Nat.le_of_ble_eq_true rfl⟩) hS (fun q _ h => hFc q h) hFc (fun u4 t H1 locs ht hvm hw hB hz1 hk1 hS => ?_)
  obtain ⟨hP1, hD1⟩ := hB
  rw [ht] at hP1
  obtain ⟨hP, hD⟩ := va_join (wr := [(h0, .inr (0, [.int (nI 0), .int (nI 0), .int (nI 0), .int (nI 0), .ref q1, .null, .null, .null, .null, .null, .null])), (q1, .inr (1, [.ref u2])), (u2, .inl (cI, 6, .inl (fun _ => nI 0)))]) (w1 := [(q3, .inr (1, [.ref u4])), (u4, .inl (cI, 180, .inl (fun _ => nI 0)))]) hP hD [3] [0, 1, 2] rfl rfl (by decide) (by decide) hk1 hFc hP1 hD1
  clear hP1 hD1 hk1 hFc hPc hDc
  generalize H1 = H at hP hS ⊢
  have hP : va_P D vwCl [(h0, .inr (0, [.int (nI 0), .int (nI 0), .int (nI 0), .int (nI 0), .ref q1, .null, .null, .null, .null, .null, .null])), (q1, .inr (1, [.ref u2])), (u2, .inl (cI, 6, .inl (fun _ => nI 0))), (q3, .inr (1, [.ref u4])), (u4, .inl (cI, 180, .inl (fun _ => nI 0)))] H := hP
  have hD : va_D A [(h0, .inr (0, [.int (nI 0), .int (nI 0), .int (nI 0), .int (nI 0), .ref q1, .null, .null, .null, .null, .null, .null])), (q1, .inr (1, [.ref u2])), (u2, .inl (cI, 6, .inl (fun _ => nI 0))), (q3, .inr (1, [.ref u4])), (u4, .inl (cI, 180, .inl (fun _ => nI 0)))] := hD
  refine W.widen (k := 4) (n := 188) (by omega) (by omega) ?_
  refine va_putF (D := D) (ci := 0) (v := .ref q3) (ty := .object "BirthStreet$Row") (C := RX0) (T := TX0) (N := 11) hx hb hg us_X0 tyX0 tyX0_ok nmX0 hown hK.1 hP hD hS 0 rfl rfl 5 (by decide) (hg _ gm_45) (fun _ h9 => h9) rfl hin rfl (by decide +kernel) rfl rfl (Nat.le_of_ble_eq_true rfl) dX0_init_48 (fun H locs hP hD hS => ?_)
  have hP : va_P D vwCl [(h0, .inr (0, [.int (nI 0), .int (nI 0), .int (nI 0), .int (nI 0), .ref q1, .ref q3, .null, .null, .null, .null, .null])), (q1, .inr (1, [.ref u2])), (u2, .inl (cI, 6, .inl (fun _ => nI 0))), (q3, .inr (1, [.ref u4])), (u4, .inl (cI, 180, .inl (fun _ => nI 0)))] H := hP
  have hD : va_D A [(h0, .inr (0, [.int (nI 0), .int (nI 0), .int (nI 0), .int (nI 0), .ref q1, .ref q3, .null, .null, .null, .null, .null])), (q1, .inr (1, [.ref u2])), (u2, .inl (cI, 6, .inl (fun _ => nI 0))), (q3, .inr (1, [.ref u4])), (u4, .inl (cI, 180, .inl (fun _ => nI 0)))] := hD
  refine lv_aload_n hx hb dX0_init_51 rfl (lv_at hl 0 rfl) ?_
  refine va_new (ci := 1) (fs := [.null]) (C := RX1) (T := TX1) (N := 1) hx hb hg us_X1 tyX1 tyX1_ok hown (hg _ gm_33) (hg _ gm_19) (hg _ gm_3) hK.1 hP hD hS hA rfl (fun j hj => by rcases (show j = 0 by omega) with rfl <;> rfl) (Nat.le_of_ble_eq_true rfl) (Nat.le_of_ble_eq_true rfl) dX0_init_52 (fun q5 H hP hD hS => ?_)
  have hP : va_P D vwCl [(h0, .inr (0, [.int (nI 0), .int (nI 0), .int (nI 0), .int (nI 0), .ref q1, .ref q3, .null, .null, .null, .null, .null])), (q1, .inr (1, [.ref u2])), (u2, .inl (cI, 6, .inl (fun _ => nI 0))), (q3, .inr (1, [.ref u4])), (u4, .inl (cI, 180, .inl (fun _ => nI 0))), (q5, .inr (1, [.null]))] H := hP
  have hD : va_D A [(h0, .inr (0, [.int (nI 0), .int (nI 0), .int (nI 0), .int (nI 0), .ref q1, .ref q3, .null, .null, .null, .null, .null])), (q1, .inr (1, [.ref u2])), (u2, .inl (cI, 6, .inl (fun _ => nI 0))), (q3, .inr (1, [.ref u4])), (u4, .inl (cI, 180, .inl (fun _ => nI 0))), (q5, .inr (1, [.null]))] := hD
  refine W.widen (k := 5) (n := 189) (by omega) (by omega) ?_
  refine lv_dup hx hb dX0_init_55 rfl ?_
  refine lv_bipush (v := nI 6) hx hb dX0_init_56 (by decide) ?_
  have hPc := hP.sub (ws' := [(q5, .inr (1, [.null]))]) [5] rfl
  have hDc := hD.sub (ws' := [(q5, .inr (1, [.null]))]) [5] (by decide) rfl
  have hFc := va_free (wc := [(q5, .inr (1, [.null]))]) hD hS hA [5] rfl
  refine va_callv (va_runI (As := [.int (nI 6)]) (rest := [.ref q5, .ref h0]) ⟨hx, hb, hml, hown, hg⟩ (c_X1_init l D cI cB aS q5 H.size 6 (by decide) (hDc.weaken (fun _ _ _ _ => trivial))) (cwI_of hg gm_34 if_X1_init rfl rfl ⟨Nat.le_of_ble_eq_true rfl, Nat.le_of_ble_eq_true rfl⟩) (RPZ.pre hK hPc) rfl rfl hl.1 rfl (lv_room (Nat.le_of_ble_eq_true rfl)) dX0_init_58 ⟨Nat.le_of_ble_eq_true rfl, Nat.le_of_ble_eq_true rfl⟩) hS (fun q _ h => hFc q h) hFc (fun u6 t H1 locs ht hvm hw hB hz1 hk1 hS => ?_)
  obtain ⟨hP1, hD1⟩ := hB
  rw [ht] at hP1
  obtain ⟨hP, hD⟩ := va_join (wr := [(h0, .inr (0, [.int (nI 0), .int (nI 0), .int (nI 0), .int (nI 0), .ref q1, .ref q3, .null, .null, .null, .null, .null])), (q1, .inr (1, [.ref u2])), (u2, .inl (cI, 6, .inl (fun _ => nI 0))), (q3, .inr (1, [.ref u4])), (u4, .inl (cI, 180, .inl (fun _ => nI 0)))]) (w1 := [(q5, .inr (1, [.ref u6])), (u6, .inl (cI, 6, .inl (fun _ => nI 0)))]) hP hD [5] [0, 1, 2, 3, 4] rfl rfl (by decide) (by decide) hk1 hFc hP1 hD1
  clear hP1 hD1 hk1 hFc hPc hDc
  generalize H1 = H at hP hS ⊢
  have hP : va_P D vwCl [(h0, .inr (0, [.int (nI 0), .int (nI 0), .int (nI 0), .int (nI 0), .ref q1, .ref q3, .null, .null, .null, .null, .null])), (q1, .inr (1, [.ref u2])), (u2, .inl (cI, 6, .inl (fun _ => nI 0))), (q3, .inr (1, [.ref u4])), (u4, .inl (cI, 180, .inl (fun _ => nI 0))), (q5, .inr (1, [.ref u6])), (u6, .inl (cI, 6, .inl (fun _ => nI 0)))] H := hP
  have hD : va_D A [(h0, .inr (0, [.int (nI 0), .int (nI 0), .int (nI 0), .int (nI 0), .ref q1, .ref q3, .null, .null, .null, .null, .null])), (q1, .inr (1, [.ref u2])), (u2, .inl (cI, 6, .inl (fun _ => nI 0))), (q3, .inr (1, [.ref u4])), (u4, .inl (cI, 180, .inl (fun _ => nI 0))), (q5, .inr (1, [.ref u6])), (u6, .inl (cI, 6, .inl (fun _ => nI 0)))] := hD
  refine W.widen (k := 6) (n := 195) (by omega) (by omega) ?_
  refine va_putF (D := D) (ci := 0) (v := .ref q5) (ty := .object "BirthStreet$Row") (C := RX0) (T := TX0) (N := 11) hx hb hg us_X0 tyX0 tyX0_ok nmX0 hown hK.1 hP hD hS 0 rfl rfl 6 (by decide) (hg _ gm_47) (fun _ h9 => h9) rfl hin rfl (by decide +kernel) rfl rfl (Nat.le_of_ble_eq_true rfl) dX0_init_61 (fun H locs hP hD hS => ?_)
  have hP : va_P D vwCl [(h0, .inr (0, [.int (nI 0), .int (nI 0), .int (nI 0), .int (nI 0), .ref q1, .ref q3, .ref q5, .null, .null, .null, .null])), (q1, .inr (1, [.ref u2])), (u2, .inl (cI, 6, .inl (fun _ => nI 0))), (q3, .inr (1, [.ref u4])), (u4, .inl (cI, 180, .inl (fun _ => nI 0))), (q5, .inr (1, [.ref u6])), (u6, .inl (cI, 6, .inl (fun _ => nI 0)))] H := hP
  have hD : va_D A [(h0, .inr (0, [.int (nI 0), .int (nI 0), .int (nI 0), .int (nI 0), .ref q1, .ref q3, .ref q5, .null, .null, .null, .null])), (q1, .inr (1, [.ref u2])), (u2, .inl (cI, 6, .inl (fun _ => nI 0))), (q3, .inr (1, [.ref u4])), (u4, .inl (cI, 180, .inl (fun _ => nI 0))), (q5, .inr (1, [.ref u6])), (u6, .inl (cI, 6, .inl (fun _ => nI 0)))] := hD
  refine lv_aload_n hx hb dX0_init_64 rfl (lv_at hl 0 rfl) ?_
  refine va_new (ci := 1) (fs := [.null]) (C := RX1) (T := TX1) (N := 1) hx hb hg us_X1 tyX1 tyX1_ok hown (hg _ gm_33) (hg _ gm_19) (hg _ gm_3) hK.1 hP hD hS hA rfl (fun j hj => by rcases (show j = 0 by omega) with rfl <;> rfl) (Nat.le_of_ble_eq_true rfl) (Nat.le_of_ble_eq_true rfl) dX0_init_65 (fun q7 H hP hD hS => ?_)
  have hP : va_P D vwCl [(h0, .inr (0, [.int (nI 0), .int (nI 0), .int (nI 0), .int (nI 0), .ref q1, .ref q3, .ref q5, .null, .null, .null, .null])), (q1, .inr (1, [.ref u2])), (u2, .inl (cI, 6, .inl (fun _ => nI 0))), (q3, .inr (1, [.ref u4])), (u4, .inl (cI, 180, .inl (fun _ => nI 0))), (q5, .inr (1, [.ref u6])), (u6, .inl (cI, 6, .inl (fun _ => nI 0))), (q7, .inr (1, [.null]))] H := hP
  have hD : va_D A [(h0, .inr (0, [.int (nI 0), .int (nI 0), .int (nI 0), .int (nI 0), .ref q1, .ref q3, .ref q5, .null, .null, .null, .null])), (q1, .inr (1, [.ref u2])), (u2, .inl (cI, 6, .inl (fun _ => nI 0))), (q3, .inr (1, [.ref u4])), (u4, .inl (cI, 180, .inl (fun _ => nI 0))), (q5, .inr (1, [.ref u6])), (u6, .inl (cI, 6, .inl (fun _ => nI 0))), (q7, .inr (1, [.null]))] := hD
  refine W.widen (k := 7) (n := 196) (by omega) (by omega) ?_
  refine lv_dup hx hb dX0_init_68 rfl ?_
  refine lv_bipush (v := nI 6) hx hb dX0_init_69 (by decide) ?_
  have hPc := hP.sub (ws' := [(q7, .inr (1, [.null]))]) [7] rfl
  have hDc := hD.sub (ws' := [(q7, .inr (1, [.null]))]) [7] (by decide) rfl
  have hFc := va_free (wc := [(q7, .inr (1, [.null]))]) hD hS hA [7] rfl
  refine va_callv (va_runI (As := [.int (nI 6)]) (rest := [.ref q7, .ref h0]) ⟨hx, hb, hml, hown, hg⟩ (c_X1_init l D cI cB aS q7 H.size 6 (by decide) (hDc.weaken (fun _ _ _ _ => trivial))) (cwI_of hg gm_34 if_X1_init rfl rfl ⟨Nat.le_of_ble_eq_true rfl, Nat.le_of_ble_eq_true rfl⟩) (RPZ.pre hK hPc) rfl rfl hl.1 rfl (lv_room (Nat.le_of_ble_eq_true rfl)) dX0_init_71 ⟨Nat.le_of_ble_eq_true rfl, Nat.le_of_ble_eq_true rfl⟩) hS (fun q _ h => hFc q h) hFc (fun u8 t H1 locs ht hvm hw hB hz1 hk1 hS => ?_)
  obtain ⟨hP1, hD1⟩ := hB
  rw [ht] at hP1
  obtain ⟨hP, hD⟩ := va_join (wr := [(h0, .inr (0, [.int (nI 0), .int (nI 0), .int (nI 0), .int (nI 0), .ref q1, .ref q3, .ref q5, .null, .null, .null, .null])), (q1, .inr (1, [.ref u2])), (u2, .inl (cI, 6, .inl (fun _ => nI 0))), (q3, .inr (1, [.ref u4])), (u4, .inl (cI, 180, .inl (fun _ => nI 0))), (q5, .inr (1, [.ref u6])), (u6, .inl (cI, 6, .inl (fun _ => nI 0)))]) (w1 := [(q7, .inr (1, [.ref u8])), (u8, .inl (cI, 6, .inl (fun _ => nI 0)))]) hP hD [7] [0, 1, 2, 3, 4, 5, 6] rfl rfl (by decide) (by decide) hk1 hFc hP1 hD1
  clear hP1 hD1 hk1 hFc hPc hDc
  generalize H1 = H at hP hS ⊢
  have hP : va_P D vwCl [(h0, .inr (0, [.int (nI 0), .int (nI 0), .int (nI 0), .int (nI 0), .ref q1, .ref q3, .ref q5, .null, .null, .null, .null])), (q1, .inr (1, [.ref u2])), (u2, .inl (cI, 6, .inl (fun _ => nI 0))), (q3, .inr (1, [.ref u4])), (u4, .inl (cI, 180, .inl (fun _ => nI 0))), (q5, .inr (1, [.ref u6])), (u6, .inl (cI, 6, .inl (fun _ => nI 0))), (q7, .inr (1, [.ref u8])), (u8, .inl (cI, 6, .inl (fun _ => nI 0)))] H := hP
  have hD : va_D A [(h0, .inr (0, [.int (nI 0), .int (nI 0), .int (nI 0), .int (nI 0), .ref q1, .ref q3, .ref q5, .null, .null, .null, .null])), (q1, .inr (1, [.ref u2])), (u2, .inl (cI, 6, .inl (fun _ => nI 0))), (q3, .inr (1, [.ref u4])), (u4, .inl (cI, 180, .inl (fun _ => nI 0))), (q5, .inr (1, [.ref u6])), (u6, .inl (cI, 6, .inl (fun _ => nI 0))), (q7, .inr (1, [.ref u8])), (u8, .inl (cI, 6, .inl (fun _ => nI 0)))] := hD
  refine W.widen (k := 8) (n := 202) (by omega) (by omega) ?_
  refine va_putF (D := D) (ci := 0) (v := .ref q7) (ty := .object "BirthStreet$Row") (C := RX0) (T := TX0) (N := 11) hx hb hg us_X0 tyX0 tyX0_ok nmX0 hown hK.1 hP hD hS 0 rfl rfl 7 (by decide) (hg _ gm_49) (fun _ h9 => h9) rfl hin rfl (by decide +kernel) rfl rfl (Nat.le_of_ble_eq_true rfl) dX0_init_74 (fun H locs hP hD hS => ?_)
  have hP : va_P D vwCl [(h0, .inr (0, [.int (nI 0), .int (nI 0), .int (nI 0), .int (nI 0), .ref q1, .ref q3, .ref q5, .ref q7, .null, .null, .null])), (q1, .inr (1, [.ref u2])), (u2, .inl (cI, 6, .inl (fun _ => nI 0))), (q3, .inr (1, [.ref u4])), (u4, .inl (cI, 180, .inl (fun _ => nI 0))), (q5, .inr (1, [.ref u6])), (u6, .inl (cI, 6, .inl (fun _ => nI 0))), (q7, .inr (1, [.ref u8])), (u8, .inl (cI, 6, .inl (fun _ => nI 0)))] H := hP
  have hD : va_D A [(h0, .inr (0, [.int (nI 0), .int (nI 0), .int (nI 0), .int (nI 0), .ref q1, .ref q3, .ref q5, .ref q7, .null, .null, .null])), (q1, .inr (1, [.ref u2])), (u2, .inl (cI, 6, .inl (fun _ => nI 0))), (q3, .inr (1, [.ref u4])), (u4, .inl (cI, 180, .inl (fun _ => nI 0))), (q5, .inr (1, [.ref u6])), (u6, .inl (cI, 6, .inl (fun _ => nI 0))), (q7, .inr (1, [.ref u8])), (u8, .inl (cI, 6, .inl (fun _ => nI 0)))] := hD
  refine lv_aload_n hx hb dX0_init_77 rfl (lv_at hl 0 rfl) ?_
  refine va_new (ci := 1) (fs := [.null]) (C := RX1) (T := TX1) (N := 1) hx hb hg us_X1 tyX1 tyX1_ok hown (hg _ gm_33) (hg _ gm_19) (hg _ gm_3) hK.1 hP hD hS hA rfl (fun j hj => by rcases (show j = 0 by omega) with rfl <;> rfl) (Nat.le_of_ble_eq_true rfl) (Nat.le_of_ble_eq_true rfl) dX0_init_78 (fun q9 H hP hD hS => ?_)
  have hP : va_P D vwCl [(h0, .inr (0, [.int (nI 0), .int (nI 0), .int (nI 0), .int (nI 0), .ref q1, .ref q3, .ref q5, .ref q7, .null, .null, .null])), (q1, .inr (1, [.ref u2])), (u2, .inl (cI, 6, .inl (fun _ => nI 0))), (q3, .inr (1, [.ref u4])), (u4, .inl (cI, 180, .inl (fun _ => nI 0))), (q5, .inr (1, [.ref u6])), (u6, .inl (cI, 6, .inl (fun _ => nI 0))), (q7, .inr (1, [.ref u8])), (u8, .inl (cI, 6, .inl (fun _ => nI 0))), (q9, .inr (1, [.null]))] H := hP
  have hD : va_D A [(h0, .inr (0, [.int (nI 0), .int (nI 0), .int (nI 0), .int (nI 0), .ref q1, .ref q3, .ref q5, .ref q7, .null, .null, .null])), (q1, .inr (1, [.ref u2])), (u2, .inl (cI, 6, .inl (fun _ => nI 0))), (q3, .inr (1, [.ref u4])), (u4, .inl (cI, 180, .inl (fun _ => nI 0))), (q5, .inr (1, [.ref u6])), (u6, .inl (cI, 6, .inl (fun _ => nI 0))), (q7, .inr (1, [.ref u8])), (u8, .inl (cI, 6, .inl (fun _ => nI 0))), (q9, .inr (1, [.null]))] := hD
  refine W.widen (k := 9) (n := 203) (by omega) (by omega) ?_
  refine lv_dup hx hb dX0_init_81 rfl ?_
  refine lv_bipush (v := nI 6) hx hb dX0_init_82 (by decide) ?_
  have hPc := hP.sub (ws' := [(q9, .inr (1, [.null]))]) [9] rfl
  have hDc := hD.sub (ws' := [(q9, .inr (1, [.null]))]) [9] (by decide) rfl
  have hFc := va_free (wc := [(q9, .inr (1, [.null]))]) hD hS hA [9] rfl
  refine va_callv (va_runI (As := [.int (nI 6)]) (rest := [.ref q9, .ref h0]) ⟨hx, hb, hml, hown, hg⟩ (c_X1_init l D cI cB aS q9 H.size 6 (by decide) (hDc.weaken (fun _ _ _ _ => trivial))) (cwI_of hg gm_34 if_X1_init rfl rfl ⟨Nat.le_of_ble_eq_true rfl, Nat.le_of_ble_eq_true rfl⟩) (RPZ.pre hK hPc) rfl rfl hl.1 rfl (lv_room (Nat.le_of_ble_eq_true rfl)) dX0_init_84 ⟨Nat.le_of_ble_eq_true rfl, Nat.le_of_ble_eq_true rfl⟩) hS (fun q _ h => hFc q h) hFc (fun u10 t H1 locs ht hvm hw hB hz1 hk1 hS => ?_)
  obtain ⟨hP1, hD1⟩ := hB
  rw [ht] at hP1
  obtain ⟨hP, hD⟩ := va_join (wr := [(h0, .inr (0, [.int (nI 0), .int (nI 0), .int (nI 0), .int (nI 0), .ref q1, .ref q3, .ref q5, .ref q7, .null, .null, .null])), (q1, .inr (1, [.ref u2])), (u2, .inl (cI, 6, .inl (fun _ => nI 0))), (q3, .inr (1, [.ref u4])), (u4, .inl (cI, 180, .inl (fun _ => nI 0))), (q5, .inr (1, [.ref u6])), (u6, .inl (cI, 6, .inl (fun _ => nI 0))), (q7, .inr (1, [.ref u8])), (u8, .inl (cI, 6, .inl (fun _ => nI 0)))]) (w1 := [(q9, .inr (1, [.ref u10])), (u10, .inl (cI, 6, .inl (fun _ => nI 0)))]) hP hD [9] [0, 1, 2, 3, 4, 5, 6, 7, 8] rfl rfl (by decide) (by decide) hk1 hFc hP1 hD1
  clear hP1 hD1 hk1 hFc hPc hDc
  generalize H1 = H at hP hS ⊢
  have hP : va_P D vwCl [(h0, .inr (0, [.int (nI 0), .int (nI 0), .int (nI 0), .int (nI 0), .ref q1, .ref q3, .ref q5, .ref q7, .null, .null, .null])), (q1, .inr (1, [.ref u2])), (u2, .inl (cI, 6, .inl (fun _ => nI 0))), (q3, .inr (1, [.ref u4])), (u4, .inl (cI, 180, .inl (fun _ => nI 0))), (q5, .inr (1, [.ref u6])), (u6, .inl (cI, 6, .inl (fun _ => nI 0))), (q7, .inr (1, [.ref u8])), (u8, .inl (cI, 6, .inl (fun _ => nI 0))), (q9, .inr (1, [.ref u10])), (u10, .inl (cI, 6, .inl (fun _ => nI 0)))] H := hP
  have hD : va_D A [(h0, .inr (0, [.int (nI 0), .int (nI 0), .int (nI 0), .int (nI 0), .ref q1, .ref q3, .ref q5, .ref q7, .null, .null, .null])), (q1, .inr (1, [.ref u2])), (u2, .inl (cI, 6, .inl (fun _ => nI 0))), (q3, .inr (1, [.ref u4])), (u4, .inl (cI, 180, .inl (fun _ => nI 0))), (q5, .inr (1, [.ref u6])), (u6, .inl (cI, 6, .inl (fun _ => nI 0))), (q7, .inr (1, [.ref u8])), (u8, .inl (cI, 6, .inl (fun _ => nI 0))), (q9, .inr (1, [.ref u10])), (u10, .inl (cI, 6, .inl (fun _ => nI 0)))] := hD
  refine W.widen (k := 10) (n := 209) (by omega) (by omega) ?_
  refine va_putF (D := D) (ci := 0) (v := .ref q9) (ty := .object "BirthStreet$Row") (C := RX0) (T := TX0) (N := 11) hx hb hg us_X0 tyX0 tyX0_ok nmX0 hown hK.1 hP hD hS 0 rfl rfl 8 (by decide) (hg _ gm_51) (fun _ h9 => h9) rfl hin rfl (by decide +kernel) rfl rfl (Nat.le_of_ble_eq_true rfl) dX0_init_87 (fun H locs hP hD hS => ?_)
  have hP : va_P D vwCl [(h0, .inr (0, [.int (nI 0), .int (nI 0), .int (nI 0), .int (nI 0), .ref q1, .ref q3, .ref q5, .ref q7, .ref q9, .null, .null])), (q1, .inr (1, [.ref u2])), (u2, .inl (cI, 6, .inl (fun _ => nI 0))), (q3, .inr (1, [.ref u4])), (u4, .inl (cI, 180, .inl (fun _ => nI 0))), (q5, .inr (1, [.ref u6])), (u6, .inl (cI, 6, .inl (fun _ => nI 0))), (q7, .inr (1, [.ref u8])), (u8, .inl (cI, 6, .inl (fun _ => nI 0))), (q9, .inr (1, [.ref u10])), (u10, .inl (cI, 6, .inl (fun _ => nI 0)))] H := hP
  have hD : va_D A [(h0, .inr (0, [.int (nI 0), .int (nI 0), .int (nI 0), .int (nI 0), .ref q1, .ref q3, .ref q5, .ref q7, .ref q9, .null, .null])), (q1, .inr (1, [.ref u2])), (u2, .inl (cI, 6, .inl (fun _ => nI 0))), (q3, .inr (1, [.ref u4])), (u4, .inl (cI, 180, .inl (fun _ => nI 0))), (q5, .inr (1, [.ref u6])), (u6, .inl (cI, 6, .inl (fun _ => nI 0))), (q7, .inr (1, [.ref u8])), (u8, .inl (cI, 6, .inl (fun _ => nI 0))), (q9, .inr (1, [.ref u10])), (u10, .inl (cI, 6, .inl (fun _ => nI 0)))] := hD
  refine lv_aload_n hx hb dX0_init_90 rfl (lv_at hl 0 rfl) ?_
  refine va_new (ci := 1) (fs := [.null]) (C := RX1) (T := TX1) (N := 1) hx hb hg us_X1 tyX1 tyX1_ok hown (hg _ gm_33) (hg _ gm_19) (hg _ gm_3) hK.1 hP hD hS hA rfl (fun j hj => by rcases (show j = 0 by omega) with rfl <;> rfl) (Nat.le_of_ble_eq_true rfl) (Nat.le_of_ble_eq_true rfl) dX0_init_91 (fun q11 H hP hD hS => ?_)
  have hP : va_P D vwCl [(h0, .inr (0, [.int (nI 0), .int (nI 0), .int (nI 0), .int (nI 0), .ref q1, .ref q3, .ref q5, .ref q7, .ref q9, .null, .null])), (q1, .inr (1, [.ref u2])), (u2, .inl (cI, 6, .inl (fun _ => nI 0))), (q3, .inr (1, [.ref u4])), (u4, .inl (cI, 180, .inl (fun _ => nI 0))), (q5, .inr (1, [.ref u6])), (u6, .inl (cI, 6, .inl (fun _ => nI 0))), (q7, .inr (1, [.ref u8])), (u8, .inl (cI, 6, .inl (fun _ => nI 0))), (q9, .inr (1, [.ref u10])), (u10, .inl (cI, 6, .inl (fun _ => nI 0))), (q11, .inr (1, [.null]))] H := hP
  have hD : va_D A [(h0, .inr (0, [.int (nI 0), .int (nI 0), .int (nI 0), .int (nI 0), .ref q1, .ref q3, .ref q5, .ref q7, .ref q9, .null, .null])), (q1, .inr (1, [.ref u2])), (u2, .inl (cI, 6, .inl (fun _ => nI 0))), (q3, .inr (1, [.ref u4])), (u4, .inl (cI, 180, .inl (fun _ => nI 0))), (q5, .inr (1, [.ref u6])), (u6, .inl (cI, 6, .inl (fun _ => nI 0))), (q7, .inr (1, [.ref u8])), (u8, .inl (cI, 6, .inl (fun _ => nI 0))), (q9, .inr (1, [.ref u10])), (u10, .inl (cI, 6, .inl (fun _ => nI 0))), (q11, .inr (1, [.null]))] := hD
  refine W.widen (k := 11) (n := 210) (by omega) (by omega) ?_
  refine lv_dup hx hb dX0_init_94 rfl ?_
  refine lv_bipush (v := nI 6) hx hb dX0_init_95 (by decide) ?_
  have hPc := hP.sub (ws' := [(q11, .inr (1, [.null]))]) [11] rfl
  have hDc := hD.sub (ws' := [(q11, .inr (1, [.null]))]) [11] (by decide) rfl
  have hFc := va_free (wc := [(q11, .inr (1, [.null]))]) hD hS hA [11] rfl
  refine va_callv (va_runI (As := [.int (nI 6)]) (rest := [.ref q11, .ref h0]) ⟨hx, hb, hml, hown, hg⟩ (c_X1_init l D cI cB aS q11 H.size 6 (by decide) (hDc.weaken (fun _ _ _ _ => trivial))) (cwI_of hg gm_34 if_X1_init rfl rfl ⟨Nat.le_of_ble_eq_true rfl, Nat.le_of_ble_eq_true rfl⟩) (RPZ.pre hK hPc) rfl rfl hl.1 rfl (lv_room (Nat.le_of_ble_eq_true rfl)) dX0_init_97 ⟨Nat.le_of_ble_eq_true rfl, Nat.le_of_ble_eq_true rfl⟩) hS (fun q _ h => hFc q h) hFc (fun u12 t H1 locs ht hvm hw hB hz1 hk1 hS => ?_)
  obtain ⟨hP1, hD1⟩ := hB
  rw [ht] at hP1
  obtain ⟨hP, hD⟩ := va_join (wr := [(h0, .inr (0, [.int (nI 0), .int (nI 0), .int (nI 0), .int (nI 0), .ref q1, .ref q3, .ref q5, .ref q7, .ref q9, .null, .null])), (q1, .inr (1, [.ref u2])), (u2, .inl (cI, 6, .inl (fun _ => nI 0))), (q3, .inr (1, [.ref u4])), (u4, .inl (cI, 180, .inl (fun _ => nI 0))), (q5, .inr (1, [.ref u6])), (u6, .inl (cI, 6, .inl (fun _ => nI 0))), (q7, .inr (1, [.ref u8])), (u8, .inl (cI, 6, .inl (fun _ => nI 0))), (q9, .inr (1, [.ref u10])), (u10, .inl (cI, 6, .inl (fun _ => nI 0)))]) (w1 := [(q11, .inr (1, [.ref u12])), (u12, .inl (cI, 6, .inl (fun _ => nI 0)))]) hP hD [11] [0, 1, 2, 3, 4, 5, 6, 7, 8, 9, 10] rfl rfl (by decide) (by decide) hk1 hFc hP1 hD1
  clear hP1 hD1 hk1 hFc hPc hDc
  generalize H1 = H at hP hS ⊢
  have hP : va_P D vwCl [(h0, .inr (0, [.int (nI 0), .int (nI 0), .int (nI 0), .int (nI 0), .ref q1, .ref q3, .ref q5, .ref q7, .ref q9, .null, .null])), (q1, .inr (1, [.ref u2])), (u2, .inl (cI, 6, .inl (fun _ => nI 0))), (q3, .inr (1, [.ref u4])), (u4, .inl (cI, 180, .inl (fun _ => nI 0))), (q5, .inr (1, [.ref u6])), (u6, .inl (cI, 6, .inl (fun _ => nI 0))), (q7, .inr (1, [.ref u8])), (u8, .inl (cI, 6, .inl (fun _ => nI 0))), (q9, .inr (1, [.ref u10])), (u10, .inl (cI, 6, .inl (fun _ => nI 0))), (q11, .inr (1, [.ref u12])), (u12, .inl (cI, 6, .inl (fun _ => nI 0)))] H := hP
  have hD : va_D A [(h0, .inr (0, [.int (nI 0), .int (nI 0), .int (nI 0), .int (nI 0), .ref q1, .ref q3, .ref q5, .ref q7, .ref q9, .null, .null])), (q1, .inr (1, [.ref u2])), (u2, .inl (cI, 6, .inl (fun _ => nI 0))), (q3, .inr (1, [.ref u4])), (u4, .inl (cI, 180, .inl (fun _ => nI 0))), (q5, .inr (1, [.ref u6])), (u6, .inl (cI, 6, .inl (fun _ => nI 0))), (q7, .inr (1, [.ref u8])), (u8, .inl (cI, 6, .inl (fun _ => nI 0))), (q9, .inr (1, [.ref u10])), (u10, .inl (cI, 6, .inl (fun _ => nI 0))), (q11, .inr (1, [.ref u12])), (u12, .inl (cI, 6, .inl (fun _ => nI 0)))] := hD
  refine W.widen (k := 12) (n := 216) (by omega) (by omega) ?_
  refine va_putF (D := D) (ci := 0) (v := .ref q11) (ty := .object "BirthStreet$Row") (C := RX0) (T := TX0) (N := 11) hx hb hg us_X0 tyX0 tyX0_ok nmX0 hown hK.1 hP hD hS 0 rfl rfl 9 (by decide) (hg _ gm_53) (fun _ h9 => h9) rfl hin rfl (by decide +kernel) rfl rfl (Nat.le_of_ble_eq_true rfl) dX0_init_100 (fun H locs hP hD hS => ?_)
  have hP : va_P D vwCl [(h0, .inr (0, [.int (nI 0), .int (nI 0), .int (nI 0), .int (nI 0), .ref q1, .ref q3, .ref q5, .ref q7, .ref q9, .ref q11, .null])), (q1, .inr (1, [.ref u2])), (u2, .inl (cI, 6, .inl (fun _ => nI 0))), (q3, .inr (1, [.ref u4])), (u4, .inl (cI, 180, .inl (fun _ => nI 0))), (q5, .inr (1, [.ref u6])), (u6, .inl (cI, 6, .inl (fun _ => nI 0))), (q7, .inr (1, [.ref u8])), (u8, .inl (cI, 6, .inl (fun _ => nI 0))), (q9, .inr (1, [.ref u10])), (u10, .inl (cI, 6, .inl (fun _ => nI 0))), (q11, .inr (1, [.ref u12])), (u12, .inl (cI, 6, .inl (fun _ => nI 0)))] H := hP
  have hD : va_D A [(h0, .inr (0, [.int (nI 0), .int (nI 0), .int (nI 0), .int (nI 0), .ref q1, .ref q3, .ref q5, .ref q7, .ref q9, .ref q11, .null])), (q1, .inr (1, [.ref u2])), (u2, .inl (cI, 6, .inl (fun _ => nI 0))), (q3, .inr (1, [.ref u4])), (u4, .inl (cI, 180, .inl (fun _ => nI 0))), (q5, .inr (1, [.ref u6])), (u6, .inl (cI, 6, .inl (fun _ => nI 0))), (q7, .inr (1, [.ref u8])), (u8, .inl (cI, 6, .inl (fun _ => nI 0))), (q9, .inr (1, [.ref u10])), (u10, .inl (cI, 6, .inl (fun _ => nI 0))), (q11, .inr (1, [.ref u12])), (u12, .inl (cI, 6, .inl (fun _ => nI 0)))] := hD
  refine lv_aload_n hx hb dX0_init_103 rfl (lv_at hl 0 rfl) ?_
  refine va_new (ci := 1) (fs := [.null]) (C := RX1) (T := TX1) (N := 1) hx hb hg us_X1 tyX1 tyX1_ok hown (hg _ gm_33) (hg _ gm_19) (hg _ gm_3) hK.1 hP hD hS hA rfl (fun j hj => by rcases (show j = 0 by omega) with rfl <;> rfl) (Nat.le_of_ble_eq_true rfl) (Nat.le_of_ble_eq_true rfl) dX0_init_104 (fun q13 H hP hD hS => ?_)
  have hP : va_P D vwCl [(h0, .inr (0, [.int (nI 0), .int (nI 0), .int (nI 0), .int (nI 0), .ref q1, .ref q3, .ref q5, .ref q7, .ref q9, .ref q11, .null])), (q1, .inr (1, [.ref u2])), (u2, .inl (cI, 6, .inl (fun _ => nI 0))), (q3, .inr (1, [.ref u4])), (u4, .inl (cI, 180, .inl (fun _ => nI 0))), (q5, .inr (1, [.ref u6])), (u6, .inl (cI, 6, .inl (fun _ => nI 0))), (q7, .inr (1, [.ref u8])), (u8, .inl (cI, 6, .inl (fun _ => nI 0))), (q9, .inr (1, [.ref u10])), (u10, .inl (cI, 6, .inl (fun _ => nI 0))), (q11, .inr (1, [.ref u12])), (u12, .inl (cI, 6, .inl (fun _ => nI 0))), (q13, .inr (1, [.null]))] H := hP
  have hD : va_D A [(h0, .inr (0, [.int (nI 0), .int (nI 0), .int (nI 0), .int (nI 0), .ref q1, .ref q3, .ref q5, .ref q7, .ref q9, .ref q11, .null])), (q1, .inr (1, [.ref u2])), (u2, .inl (cI, 6, .inl (fun _ => nI 0))), (q3, .inr (1, [.ref u4])), (u4, .inl (cI, 180, .inl (fun _ => nI 0))), (q5, .inr (1, [.ref u6])), (u6, .inl (cI, 6, .inl (fun _ => nI 0))), (q7, .inr (1, [.ref u8])), (u8, .inl (cI, 6, .inl (fun _ => nI 0))), (q9, .inr (1, [.ref u10])), (u10, .inl (cI, 6, .inl (fun _ => nI 0))), (q11, .inr (1, [.ref u12])), (u12, .inl (cI, 6, .inl (fun _ => nI 0))), (q13, .inr (1, [.null]))] := hD
  refine W.widen (k := 13) (n := 217) (by omega) (by omega) ?_
  refine lv_dup hx hb dX0_init_107 rfl ?_
  refine lv_bipush (v := nI 6) hx hb dX0_init_108 (by decide) ?_
  have hPc := hP.sub (ws' := [(q13, .inr (1, [.null]))]) [13] rfl
  have hDc := hD.sub (ws' := [(q13, .inr (1, [.null]))]) [13] (by decide) rfl
  have hFc := va_free (wc := [(q13, .inr (1, [.null]))]) hD hS hA [13] rfl
  refine va_callv (va_runI (As := [.int (nI 6)]) (rest := [.ref q13, .ref h0]) ⟨hx, hb, hml, hown, hg⟩ (c_X1_init l D cI cB aS q13 H.size 6 (by decide) (hDc.weaken (fun _ _ _ _ => trivial))) (cwI_of hg gm_34 if_X1_init rfl rfl ⟨Nat.le_of_ble_eq_true rfl, Nat.le_of_ble_eq_true rfl⟩) (RPZ.pre hK hPc) rfl rfl hl.1 rfl (lv_room (Nat.le_of_ble_eq_true rfl)) dX0_init_110 ⟨Nat.le_of_ble_eq_true rfl, Nat.le_of_ble_eq_true rfl⟩) hS (fun q _ h => hFc q h) hFc (fun u14 t H1 locs ht hvm hw hB hz1 hk1 hS => ?_)
  obtain ⟨hP1, hD1⟩ := hB
  rw [ht] at hP1
  obtain ⟨hP, hD⟩ := va_join (wr := [(h0, .inr (0, [.int (nI 0), .int (nI 0), .int (nI 0), .int (nI 0), .ref q1, .ref q3, .ref q5, .ref q7, .ref q9, .ref q11, .null])), (q1, .inr (1, [.ref u2])), (u2, .inl (cI, 6, .inl (fun _ => nI 0))), (q3, .inr (1, [.ref u4])), (u4, .inl (cI, 180, .inl (fun _ => nI 0))), (q5, .inr (1, [.ref u6])), (u6, .inl (cI, 6, .inl (fun _ => nI 0))), (q7, .inr (1, [.ref u8])), (u8, .inl (cI, 6, .inl (fun _ => nI 0))), (q9, .inr (1, [.ref u10])), (u10, .inl (cI, 6, .inl (fun _ => nI 0))), (q11, .inr (1, [.ref u12])), (u12, .inl (cI, 6, .inl (fun _ => nI 0)))]) (w1 := [(q13, .inr (1, [.ref u14])), (u14, .inl (cI, 6, .inl (fun _ => nI 0)))]) hP hD [13] [0, 1, 2, 3, 4, 5, 6, 7, 8, 9, 10, 11, 12] rfl rfl (by decide) (by decide) hk1 hFc hP1 hD1
  clear hP1 hD1 hk1 hFc hPc hDc
  generalize H1 = H at hP hS ⊢
  have hP : va_P D vwCl [(h0, .inr (0, [.int (nI 0), .int (nI 0), .int (nI 0), .int (nI 0), .ref q1, .ref q3, .ref q5, .ref q7, .ref q9, .ref q11, .null])), (q1, .inr (1, [.ref u2])), (u2, .inl (cI, 6, .inl (fun _ => nI 0))), (q3, .inr (1, [.ref u4])), (u4, .inl (cI, 180, .inl (fun _ => nI 0))), (q5, .inr (1, [.ref u6])), (u6, .inl (cI, 6, .inl (fun _ => nI 0))), (q7, .inr (1, [.ref u8])), (u8, .inl (cI, 6, .inl (fun _ => nI 0))), (q9, .inr (1, [.ref u10])), (u10, .inl (cI, 6, .inl (fun _ => nI 0))), (q11, .inr (1, [.ref u12])), (u12, .inl (cI, 6, .inl (fun _ => nI 0))), (q13, .inr (1, [.ref u14])), (u14, .inl (cI, 6, .inl (fun _ => nI 0)))] H := hP
  have hD : va_D A [(h0, .inr (0, [.int (nI 0), .int (nI 0), .int (nI 0), .int (nI 0), .ref q1, .ref q3, .ref q5, .ref q7, .ref q9, .ref q11, .null])), (q1, .inr (1, [.ref u2])), (u2, .inl (cI, 6, .inl (fun _ => nI 0))), (q3, .inr (1, [.ref u4])), (u4, .inl (cI, 180, .inl (fun _ => nI 0))), (q5, .inr (1, [.ref u6])), (u6, .inl (cI, 6, .inl (fun _ => nI 0))), (q7, .inr (1, [.ref u8])), (u8, .inl (cI, 6, .inl (fun _ => nI 0))), (q9, .inr (1, [.ref u10])), (u10, .inl (cI, 6, .inl (fun _ => nI 0))), (q11, .inr (1, [.ref u12])), (u12, .inl (cI, 6, .inl (fun _ => nI 0))), (q13, .inr (1, [.ref u14])), (u14, .inl (cI, 6, .inl (fun _ => nI 0)))] := hD
  refine W.widen (k := 14) (n := 223) (by omega) (by omega) ?_
  refine va_putF (D := D) (ci := 0) (v := .ref q13) (ty := .object "BirthStreet$Row") (C := RX0) (T := TX0) (N := 11) hx hb hg us_X0 tyX0 tyX0_ok nmX0 hown hK.1 hP hD hS 0 rfl rfl 10 (by decide) (hg _ gm_54) (fun _ h9 => h9) rfl hin rfl (by decide +kernel) rfl rfl (Nat.le_of_ble_eq_true rfl) dX0_init_113 (fun H locs hP hD hS => ?_)
  have hP : va_P D vwCl [(h0, .inr (0, [.int (nI 0), .int (nI 0), .int (nI 0), .int (nI 0), .ref q1, .ref q3, .ref q5, .ref q7, .ref q9, .ref q11, .ref q13])), (q1, .inr (1, [.ref u2])), (u2, .inl (cI, 6, .inl (fun _ => nI 0))), (q3, .inr (1, [.ref u4])), (u4, .inl (cI, 180, .inl (fun _ => nI 0))), (q5, .inr (1, [.ref u6])), (u6, .inl (cI, 6, .inl (fun _ => nI 0))), (q7, .inr (1, [.ref u8])), (u8, .inl (cI, 6, .inl (fun _ => nI 0))), (q9, .inr (1, [.ref u10])), (u10, .inl (cI, 6, .inl (fun _ => nI 0))), (q11, .inr (1, [.ref u12])), (u12, .inl (cI, 6, .inl (fun _ => nI 0))), (q13, .inr (1, [.ref u14])), (u14, .inl (cI, 6, .inl (fun _ => nI 0)))] H := hP
  have hD : va_D A [(h0, .inr (0, [.int (nI 0), .int (nI 0), .int (nI 0), .int (nI 0), .ref q1, .ref q3, .ref q5, .ref q7, .ref q9, .ref q11, .ref q13])), (q1, .inr (1, [.ref u2])), (u2, .inl (cI, 6, .inl (fun _ => nI 0))), (q3, .inr (1, [.ref u4])), (u4, .inl (cI, 180, .inl (fun _ => nI 0))), (q5, .inr (1, [.ref u6])), (u6, .inl (cI, 6, .inl (fun _ => nI 0))), (q7, .inr (1, [.ref u8])), (u8, .inl (cI, 6, .inl (fun _ => nI 0))), (q9, .inr (1, [.ref u10])), (u10, .inl (cI, 6, .inl (fun _ => nI 0))), (q11, .inr (1, [.ref u12])), (u12, .inl (cI, 6, .inl (fun _ => nI 0))), (q13, .inr (1, [.ref u14])), (u14, .inl (cI, 6, .inl (fun _ => nI 0)))] := hD
  have hP9 := hP.sub (ws' := (fun (u : Nat → Nat) => [(u 0, .inr (0, [.int (nI 0), .int (nI 0), .int (nI 0), .int (nI 0), .ref (u 1), .ref (u 2), .ref (u 3), .ref (u 4), .ref (u 5), .ref (u 6), .ref (u 7)])), (u 1, .inr (1, [.ref (u 8)])), (u 2, .inr (1, [.ref (u 9)])), (u 3, .inr (1, [.ref (u 10)])), (u 4, .inr (1, [.ref (u 11)])), (u 5, .inr (1, [.ref (u 12)])), (u 6, .inr (1, [.ref (u 13)])), (u 7, .inr (1, [.ref (u 14)])), (u 8, .inl (cI, 6, .inl (fun _ => nI 0))), (u 9, .inl (cI, 180, .inl (fun _ => nI 0))), (u 10, .inl (cI, 6, .inl (fun _ => nI 0))), (u 11, .inl (cI, 6, .inl (fun _ => nI 0))), (u 12, .inl (cI, 6, .inl (fun _ => nI 0))), (u 13, .inl (cI, 6, .inl (fun _ => nI 0))), (u 14, .inl (cI, 6, .inl (fun _ => nI 0)))]) (fun i => ([h0, q1, q3, q5, q7, q9, q11, q13, u2, u4, u6, u8, u10, u12, u14] : List Nat).getD i 0)) [0, 1, 3, 5, 7, 9, 11, 13, 2, 4, 6, 8, 10, 12, 14] rfl
  have hD9 := hD.sub (ws' := (fun (u : Nat → Nat) => [(u 0, .inr (0, [.int (nI 0), .int (nI 0), .int (nI 0), .int (nI 0), .ref (u 1), .ref (u 2), .ref (u 3), .ref (u 4), .ref (u 5), .ref (u 6), .ref (u 7)])), (u 1, .inr (1, [.ref (u 8)])), (u 2, .inr (1, [.ref (u 9)])), (u 3, .inr (1, [.ref (u 10)])), (u 4, .inr (1, [.ref (u 11)])), (u 5, .inr (1, [.ref (u 12)])), (u 6, .inr (1, [.ref (u 13)])), (u 7, .inr (1, [.ref (u 14)])), (u 8, .inl (cI, 6, .inl (fun _ => nI 0))), (u 9, .inl (cI, 180, .inl (fun _ => nI 0))), (u 10, .inl (cI, 6, .inl (fun _ => nI 0))), (u 11, .inl (cI, 6, .inl (fun _ => nI 0))), (u 12, .inl (cI, 6, .inl (fun _ => nI 0))), (u 13, .inl (cI, 6, .inl (fun _ => nI 0))), (u 14, .inl (cI, 6, .inl (fun _ => nI 0)))]) (fun i => ([h0, q1, q3, q5, q7, q9, q11, q13, u2, u4, u6, u8, u10, u12, u14] : List Nat).getD i 0)) [0, 1, 3, 5, 7, 9, 11, 13, 2, 4, 6, 8, 10, 12, 14] (by decide) rfl
  subst hAe
  exact W.vret hx hb hr (fun t ht hW => ⟨⟨fun i => ([h0, q1, q3, q5, q7, q9, q11, q13, u2, u4, u6, u8, u10, u12, u14] : List Nat).getD i 0, rfl, rfl, by rw [ht]; exact hP9, hD9⟩, hS.F ht⟩) hS.2.2 dX0_init_116
