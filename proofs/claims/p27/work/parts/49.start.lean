theorem if_X2_init : ifacts RX2 yX2_init cX2_init 1 0 := ⟨⟨rfl, by decide +kernel, by decide +kernel, by decide +kernel⟩, rfl, gm_13, gm_2, gm_14⟩
theorem ln_cs : (Cond.laysStatic "java/lang/String" "COMPACT_STRINGS" "Z" : Cond) ∈ lw_tbl := List.mem_append_right _ (List.mem_append_right _ (List.mem_of_getElem? (i := 67) (rfl : tables_1_2[67]? = some _)))
theorem ln_sf : (Cond.laysStatic "jdk/internal/util/Preconditions" "SIOOBE_FORMATTER" "Ljava/util/function/BiFunction;" : Cond) ∈ lw_tbl := List.mem_append_right _ (List.mem_append_right _ (List.mem_of_getElem? (i := 83) (rfl : tables_1_2[83]? = some _)))
theorem es_start {s : State} {b : Addr} (hts : ∀ w ∈ lw_tbl, w.before #[Value.ref b] s = true) (hgf : ∀ w ∈ flatC (Jvm.Cond.and given_1 narrow_1), w.before #[Value.ref b] s = true) : ∃ aS aV : Nat, ES aS aV (fun r : Nat => s.heap.size ≤ r) s s.heap ∧ vk_R RX2 233 "htmcb" aS s := by
  have hA : ∀ r : Nat, r < s.heap.size → ¬ (fun r : Nat => s.heap.size ≤ r) r := fun r h => Nat.not_le.mpr h
  obtain ⟨adK, adV, h1, h2⟩ := vk_Sof (args := #[Value.ref b]) (s := s) (N := 1) (tm := fun _ => (Term.string RX2 233)) (len := [5]) (byt := [[104, 116, 109, 99, 98]]) (A := (fun r : Nat => s.heap.size ≤ r))
    (fun i hi => by have e0 : i = 0 := (by omega); subst e0; decide)
    (fun i hi => by have e0 : i = 0 := (by omega); subst e0; exact hgf _ (by decide +kernel))
    (fun i hi => by have e0 : i = 0 := (by omega); subst e0; exact hgf _ (by decide +kernel))
    (fun i hi => by have e0 : i = 0 := (by omega); subst e0; exact hgf _ (by decide +kernel))
    (fun i hi => by have e0 : i = 0 := (by omega); subst e0; exact hgf _ (by decide +kernel))
    (fun i hi j hj => by have e0 : i = 0 := (by omega); subst e0; have hj : j < 5 := hj; rcases (show j = 0 ∨ j = 1 ∨ j = 2 ∨ j = 3 ∨ j = 4 by omega) with rfl | rfl | rfl | rfl | rfl <;> exact hgf _ (by decide +kernel))
    (fun i j hi hj hij => by omega) hA
  refine ⟨adK 0, adV 0, ⟨⟨fun i hi => ?_, fun i j hi hj _ => by omega⟩, va_Zof (hts _ ln_cs) (hts _ (gG_in _ gm_5)) (va_eqt (hgf _ (by decide +kernel))) hA, va_Zqof (hts _ ln_sf) (hts _ (gG_in _ gm_7)) (hgf _ (by decide +kernel)) hA⟩, vk_R.of (hts _ gn_254) (h2 0 (by omega))⟩
  have e0 : i = 0 := by omega
  subst e0
  exact h1.1 0 hi
theorem kp_start {s : State} {b : Addr} {aS : Nat} (hg : ∀ w ∈ gG, w.before #[Value.ref b] s = true) (hts : ∀ w ∈ lw_tbl, w.before #[Value.ref b] s = true) (hsr : vk_R RX2 233 "htmcb" aS s) : ∃ (D : va_G) (cI cB : ClassId), KP D cI cB aS s := by
  obtain ⟨c0, i0, k0⟩ := u_known (C := RX0) (T := TX0) (N := 11) (n := 11) hg us_X0 (hg _ gm_28)
  obtain ⟨c1, i1, k1⟩ := u_known (C := RX1) (T := TX1) (N := 1) (n := 1) hg us_X1 (hg _ gm_19)
  obtain ⟨c2, i2, k2⟩ := u_known (C := RX2) (T := TX2) (N := 11) (n := 11) hg us_X2 (hg _ gm_11)
  obtain ⟨cI, kI, oI, fI, vI, dI⟩ := Cond.arrayClass_spec (hg _ gm_26)
  obtain ⟨cB, kB, oB, fB, vB, dB⟩ := Cond.arrayClass_spec (hg _ gm_353)
  refine ⟨(fun k => if k = 0 then c0 else if k = 1 then c1 else c2, fun k => if k = 0 then i0 else if k = 1 then i1 else i2), cI, cB, ⟨fun k q hq => ?_, fun k q hq => ?_⟩, fun q hq => ?_, va_Nw.of rfl (hts _ gn_29), hsr⟩
  · match k, hq with
    | 0, hq => cases hq; exact k0
    | 1, hq => cases hq; exact k1
    | 2, hq => cases hq; exact k2
    | k + 3, hq => simp at hq
  · match k, hq with
    | 0, hq => cases hq; exact ⟨fun n z => ⟨fun k h => (by cases h), kI, vI, oI, dI⟩, fI⟩
    | 1, hq => cases hq; exact ⟨fun n z => ⟨fun k h => (by cases h), kB, vB, oB, dB⟩, fB⟩
    | k + 2, hq => simp at hq
  · simp only [nestF, List.mem_cons, List.not_mem_nil, or_false] at hq
    rcases hq with rfl | rfl | rfl | rfl | rfl | rfl | rfl | rfl | rfl
    · exact va_Nw.of rfl (hts _ gn_36)
    · exact va_Nw.of rfl (hts _ gn_38)
    · exact va_Nw.of rfl (hts _ gn_40)
    · exact va_Nw.of rfl (hts _ gn_42)
    · exact va_Nw.of rfl (hts _ gn_44)
    · exact va_Nw.of rfl (hts _ gn_46)
    · exact va_Nw.of rfl (hts _ gn_48)
    · exact va_Nw.of rfl (hts _ gn_50)
    · exact va_Nw.of rfl (hts _ gn_52)
theorem app5 {X : va_W} {c1 c2 c3 c4 c5 : Nat × va_E} : ((((X ++ [c1]) ++ [c2]) ++ [c3]) ++ [c4]) ++ [c5] = X ++ [c1, c2, c3, c4, c5] := by simp
set_option maxRecDepth 100000 in
set_option maxHeartbeats 4000000 in
theorem whole_start {p : Program} {e : Env} {s : State} {m : MethodId} {below : List Frame} {meth : Method} {c : Code} (l : Launch) (hflags : l.flags = flags0) {b L : Nat} {xs : Nat → Int32} (hL : L ≤ 260) (C0 : lw_At p s m meth c b L xs) : W p l e room_1 s m #[Value.ref b] below meth c s.heap [] 0 0 (lw_Z below #[Value.ref b] s) (entryFrame m ([Value.ref b] : List Value).toArray 25) := by
  obtain ⟨hx, hb, hr, hml, hown, hts, hX, hbl, hlocks, hgv⟩ := C0
  have hown : s.vm.findClass RL = some m.cls := hown
  have hg : ∀ w ∈ gG, w.before #[Value.ref b] s = true := fun w h => hts w (gG_in w h)
  have hgf := flat_of_before _ hgv
  obtain ⟨aS, aV, hES, hsr⟩ := es_start hts hgf
  obtain ⟨D, cI, cB, hK⟩ := kp_start hg hts hsr
  have hA : ∀ r : Nat, s.heap.size ≤ r → (fun r : Nat => s.heap.size ≤ r) r := fun _ h => h
  have hS : va_S (fun r : Nat => s.heap.size ≤ r) s.heap s.heap [] := va_S.rf
  have hP : va_P D vwCl [] s.heap := P_n
  have hD : va_D (fun r : Nat => s.heap.size ≤ r) [] := ⟨fun i j p q h => by simp at h, fun k q h => by simp at h⟩
  have hl := lv_entry ([.ref b]) (n := 25) (Nat.le_of_ble_eq_true rfl)
  rw [lg_entry_eq]
  generalize (lg_sl ([.ref b]) ++ List.replicate (25 - (lg_sl ([.ref b])).length) Slot.unset).toArray = ls at hl ⊢
  have hl : lv_has ls 25 [(0, .ref b)] := hl
  refine va_new (ci := 2) (fs := [.null, .int 0, .int 0, .int 0, .null, .null, .null, .int 0, .null, .null, .null]) (C := RX2) (T := TX2) (N := 11) hx hb hg us_X2 tyX2 tyX2_ok hown (hg _ gm_10) (hg _ gm_11) (hg _ gm_2) hK.1 hP hD hS hA rfl (fun j hj => by rcases (show j = 0 ∨ j = 1 ∨ j = 2 ∨ j = 3 ∨ j = 4 ∨ j = 5 ∨ j = 6 ∨ j = 7 ∨ j = 8 ∨ j = 9 ∨ j = 10 by omega) with rfl | rfl | rfl | rfl | rfl | rfl | rfl | rfl | rfl | rfl | rfl <;> rfl) (Nat.le_of_ble_eq_true rfl) (Nat.le_of_ble_eq_true rfl) dL_law_0 (fun q1 H hP hD hS => ?_)
  have hP : va_P D vwCl [(q1, .inr (2, [.null, .int 0, .int 0, .int 0, .null, .null, .null, .int 0, .null, .null, .null]))] H := hP
  have hD : va_D (fun r : Nat => s.heap.size ≤ r) [(q1, .inr (2, [.null, .int 0, .int 0, .int 0, .null, .null, .null, .int 0, .null, .null, .null]))] := hD
  refine lv_dup hx hb dL_law_3 rfl ?_
  have hFc := va_free (wc := [(q1, .inr (2, [.null, .int 0, .int 0, .int 0, .null, .null, .null, .int 0, .null, .null, .null]))]) hD hS hA [0] rfl
  refine va_callv (va_runI (As := []) (rest := [.ref q1]) ⟨hx, hb, hml, hown, hg⟩ (c_X2_init l D cI cB aS q1 H.size (hD.weaken (fun _ _ _ _ => trivial))) (cwI_of hg gm_12 if_X2_init rfl rfl ⟨Nat.le_of_ble_eq_true rfl, Nat.le_of_ble_eq_true rfl⟩) (RPZ.pre hK hP) rfl rfl hl.1 rfl (lv_room (Nat.le_of_ble_eq_true rfl)) dL_law_4 ⟨Nat.le_of_ble_eq_true rfl, Nat.le_of_ble_eq_true rfl⟩) hS (fun r _ h => hFc r h) hFc (fun a t H1 locs1 ht hvm hw hB hz1 hk1 hS => ?_)
  obtain ⟨hP1, hD1⟩ := hB
  rw [ht] at hP1
  have hw : a 0 = q1 := hw
  have hPX : va_P D vwCl (XW cI a 0 0 0 (nI 0) 0 0 0 (nI 0) 0 0 0 (nI 0) (fun _ => nI 0) (fun _ => nI 0) (fun _ => nI 0) (fun _ => nI 0) (fun _ => nI 0) (fun _ => nI 0) (fun _ => nI 0) (fun _ => nI 0) (fun _ => nI 0) (fun _ => nI 0) (fun _ => nI 0) (fun _ => nI 0) (fun _ => nI 0) (fun _ => nI 0) (fun _ => nI 0) (fun _ => nI 0) (fun _ => nI 0) (fun _ => nI 0) (fun _ => nI 0)) H1 := hP1
  have hDX : va_D (fun r : Nat => s.heap.size ≤ r) (XW cI a 0 0 0 (nI 0) 0 0 0 (nI 0) 0 0 0 (nI 0) (fun _ => nI 0) (fun _ => nI 0) (fun _ => nI 0) (fun _ => nI 0) (fun _ => nI 0) (fun _ => nI 0) (fun _ => nI 0) (fun _ => nI 0) (fun _ => nI 0) (fun _ => nI 0) (fun _ => nI 0) (fun _ => nI 0) (fun _ => nI 0) (fun _ => nI 0) (fun _ => nI 0) (fun _ => nI 0) (fun _ => nI 0) (fun _ => nI 0) (fun _ => nI 0)) := hD1.weaken (fun k q _ h1 => hFc q.1 h1)
  clear hP1 hD1 hk1 hFc hP hD
  subst hw
  clear ht
  refine lv_astore_n (lv' := [(1, .ref (a 0)), (0, .ref b)]) hx hb dL_law_7 rfl hl (by decide) rfl (fun ls hl => ?_)
  have hP := hPX
  have hD := hDX
  clear hPX hDX
  refine lv_bipush (v := nI 21) hx hb dL_law_8 (by decide) ?_
  refine va_newa (atype := .int) hx hb (hg _ gm_26) rfl hK.1 hP hD hS hA (n := nI 21) (N' := 21) (a0 := (21, .inl (fun _ => nI 0))) new_i (nI_pos (by omega)) (nI_clamp (by omega)) (Nat.le_of_ble_eq_true rfl) (Nat.le_of_ble_eq_true rfl) (Nat.le_of_ble_eq_true rfl) dL_law_10 (fun y1 cA H hK2 hP hD hS => ?_)
  have ecA := cI_eq hK.1 hK2
  rw [ecA] at hP hD
  clear ecA hK2
  refine lv_astore_n (lv' := [(2, .ref y1), (1, .ref (a 0)), (0, .ref b)]) hx hb dL_law_12 rfl hl (by decide) rfl (fun ls hl => ?_)
  refine lv_bipush (v := nI 21) hx hb dL_law_13 (by decide) ?_
  refine va_newa (atype := .int) hx hb (hg _ gm_26) rfl hK.1 hP hD hS hA (n := nI 21) (N' := 21) (a0 := (21, .inl (fun _ => nI 0))) new_i (nI_pos (by omega)) (nI_clamp (by omega)) (Nat.le_of_ble_eq_true rfl) (Nat.le_of_ble_eq_true rfl) (Nat.le_of_ble_eq_true rfl) dL_law_15 (fun y2 cA H hK2 hP hD hS => ?_)
  have ecA := cI_eq hK.1 hK2
  rw [ecA] at hP hD
  clear ecA hK2
  refine lv_astore_n (lv' := [(3, .ref y2), (2, .ref y1), (1, .ref (a 0)), (0, .ref b)]) hx hb dL_law_17 rfl hl (by decide) rfl (fun ls hl => ?_)
  refine lv_bipush (v := nI 30) hx hb dL_law_18 (by decide) ?_
  refine va_newa (atype := .long) hx hb (hg _ gm_353) rfl hK.1 hP hD hS hA (n := nI 30) (N' := 30) (a0 := (30, .inr (.inl (fun _ => 0)))) new_l (nI_pos (by omega)) (nI_clamp (by omega)) (Nat.le_of_ble_eq_true rfl) (Nat.le_of_ble_eq_true rfl) (Nat.le_of_ble_eq_true rfl) dL_law_20 (fun y3 cA H hK2 hP hD hS => ?_)
  have ecA := cB_eq hK.1 hK2
  rw [ecA] at hP hD
  clear ecA hK2
  refine lv_astore (lv' := [(4, .ref y3), (3, .ref y2), (2, .ref y1), (1, .ref (a 0)), (0, .ref b)]) hx hb dL_law_22 hl (by decide) rfl (fun ls hl => ?_)
  refine lv_bipush (v := nI 6) hx hb dL_law_24 (by decide) ?_
  refine va_newa (atype := .int) hx hb (hg _ gm_26) rfl hK.1 hP hD hS hA (n := nI 6) (N' := 6) (a0 := (6, .inl (fun _ => nI 0))) new_i (nI_pos (by omega)) (nI_clamp (by omega)) (Nat.le_of_ble_eq_true rfl) (Nat.le_of_ble_eq_true rfl) (Nat.le_of_ble_eq_true rfl) dL_law_26 (fun y4 cA H hK2 hP hD hS => ?_)
  have ecA := cI_eq hK.1 hK2
  rw [ecA] at hP hD
  clear ecA hK2
  refine lv_astore (lv' := [(5, .ref y4), (4, .ref y3), (3, .ref y2), (2, .ref y1), (1, .ref (a 0)), (0, .ref b)]) hx hb dL_law_28 hl (by decide) rfl (fun ls hl => ?_)
  refine lv_bipush (v := nI 6) hx hb dL_law_30 (by decide) ?_
  refine va_newa (atype := .int) hx hb (hg _ gm_26) rfl hK.1 hP hD hS hA (n := nI 6) (N' := 6) (a0 := (6, .inl (fun _ => nI 0))) new_i (nI_pos (by omega)) (nI_clamp (by omega)) (Nat.le_of_ble_eq_true rfl) (Nat.le_of_ble_eq_true rfl) (Nat.le_of_ble_eq_true rfl) dL_law_32 (fun y5 cA H hK2 hP hD hS => ?_)
  have ecA := cI_eq hK.1 hK2
  rw [ecA] at hP hD
  clear ecA hK2
  refine lv_astore (lv' := [(6, .ref y5), (5, .ref y4), (4, .ref y3), (3, .ref y2), (2, .ref y1), (1, .ref (a 0)), (0, .ref b)]) hx hb dL_law_34 hl (by decide) rfl (fun ls hl => ?_)
  obtain ⟨y, ey⟩ : ∃ y : Nat → Nat, y = fun i => ([y1, y2, y3, y4, y5] : List Nat).getD i 0 := ⟨_, rfl⟩
  have e_0 : y1 = y 0 := by rw [ey]; rfl
  have e_1 : y2 = y 1 := by rw [ey]; rfl
  have e_2 : y3 = y 2 := by rw [ey]; rfl
  have e_3 : y4 = y 3 := by rw [ey]; rfl
  have e_4 : y5 = y 4 := by rw [ey]; rfl
  clear ey
  rw [app5] at hP hD
  rw [e_0] at hP hD hl
  rw [e_1] at hP hD hl
  rw [e_2] at hP hD hl
  rw [e_3] at hP hD hl
  rw [e_4] at hP hD hl
  have hP : va_P D vwCl (ZW cI cB a y 0 0 0 (nI 0) 0 0 0 (nI 0) 0 0 0 (nI 0) (fun _ => nI 0) (fun _ => nI 0) (fun _ => nI 0) (fun _ => nI 0) (fun _ => nI 0) (fun _ => nI 0) (fun _ => nI 0) (fun _ => nI 0) (fun _ => nI 0) (fun _ => nI 0) (fun _ => nI 0) (fun _ => nI 0) (fun _ => nI 0) (fun _ => nI 0) (fun _ => nI 0) (fun _ => nI 0) (fun _ => nI 0) (fun _ => nI 0) (fun _ => nI 0) (fun _ => nI 0) (fun _ => nI 0) (fun _ => 0) (fun _ => nI 0) (fun _ => nI 0)) H := hP
  have hD : va_D (fun r : Nat => s.heap.size ≤ r) (ZW cI cB a y 0 0 0 (nI 0) 0 0 0 (nI 0) 0 0 0 (nI 0) (fun _ => nI 0) (fun _ => nI 0) (fun _ => nI 0) (fun _ => nI 0) (fun _ => nI 0) (fun _ => nI 0) (fun _ => nI 0) (fun _ => nI 0) (fun _ => nI 0) (fun _ => nI 0) (fun _ => nI 0) (fun _ => nI 0) (fun _ => nI 0) (fun _ => nI 0) (fun _ => nI 0) (fun _ => nI 0) (fun _ => nI 0) (fun _ => nI 0) (fun _ => nI 0) (fun _ => nI 0) (fun _ => nI 0) (fun _ => 0) (fun _ => nI 0) (fun _ => nI 0)) := hD
  refine lv_iconst (v := nI 0) hx hb dL_law_36 (by decide) ?_
  refine lv_istore (lv' := [(7, .int (nI 0)), (6, .ref (y 4)), (5, .ref (y 3)), (4, .ref (y 2)), (3, .ref (y 1)), (2, .ref (y 0)), (1, .ref (a 0)), (0, .ref b)]) hx hb dL_law_37 hl (by decide) rfl (fun ls hl => ?_)
  exact law_trip hr hlocks (l := l) (e := e) (below := below) (D := D) (cI := cI) (cB := cB) (aS := aS) (aV := aV) (A := (fun r : Nat => s.heap.size ≤ r)) (a := a) (y := y) (L := L) (xs := xs) ⟨hx, hb, hml, hown, hg, hK, hES, hX, hbl, Nat.not_le.mpr hbl, hL, fun w hw => hD.addr (hw.trans ZW_addr.symm)⟩ (fun r h => h) 2 0 (by omega) (by omega) _ _ ls (zT.of (fun h => absurd rfl h) hP hS) (lv_sub hl [7, 6, 5, 4, 3, 2, 1, 0] rfl)
