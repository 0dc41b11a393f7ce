theorem if_X2_init : ifacts RX2 yX2_init cX2_init 1 0 := ⟨⟨rfl, by decide +kernel, by decide +kernel, by decide +kernel⟩, rfl, gm_15, gm_2, gm_16⟩
theorem if_X3_init : ifacts RX3 yX3_init cX3_init 1 0 := ⟨⟨rfl, by decide +kernel, by decide +kernel, by decide +kernel⟩, rfl, gm_398, gm_5, gm_399⟩
theorem P_app {D : va_G} {w w2 : va_W} {H : Heap} (h : va_P D vwCl (w ++ w2) H) : va_P D vwCl w H ∧ va_P D vwCl w2 H :=
  ⟨fun k q hq => h k q (by rw [List.getElem?_append_left (List.getElem?_eq_some_iff.mp hq).1]; exact hq), fun k q hq => h (w.length + k) q (by rw [List.getElem?_append_right (Nat.le_add_right _ _), Nat.add_sub_cancel_left]; exact hq)⟩
theorem D_app {A : Nat → Prop} {w w2 : va_W} (h : va_D A (w ++ w2)) : va_D A w ∧ va_D A w2 ∧ ∀ q, inW w q → ¬ inW w2 q := by
  have g1 : ∀ (k : Nat) (q : Nat × va_E), w[k]? = some q → (w ++ w2)[k]? = some q := fun k q hq => by rw [List.getElem?_append_left (List.getElem?_eq_some_iff.mp hq).1]; exact hq
  have g2 : ∀ (k : Nat) (q : Nat × va_E), w2[k]? = some q → (w ++ w2)[w.length + k]? = some q := fun k q hq => by rw [List.getElem?_append_right (Nat.le_add_right _ _), Nat.add_sub_cancel_left]; exact hq
  refine ⟨⟨fun i j p q hp hq e => h.1 i j p q (g1 i p hp) (g1 j q hq) e, fun k q hq => h.2 k q (g1 k q hq)⟩, ⟨fun i j p q hp hq e => ?_, fun k q hq => h.2 _ q (g2 k q hq)⟩, fun q ⟨i, x1, hi⟩ ⟨j, x2, hj⟩ => ?_⟩
  · have := h.1 _ _ p q (g2 i p hp) (g2 j q hq) e
    omega
  · have h1 := h.1 _ _ _ _ (g1 i _ hi) (g2 j _ hj) rfl
    have h2 := (List.getElem?_eq_some_iff.mp hi).1
    omega
/-- behind a constructor's call: the other world, and the new one -/
theorem join2 {A0 : Nat → Prop} {D : va_G} {w wc w1 : va_W} {H H1 : Heap} (hP : va_P D vwCl (w ++ wc) H) (hD : va_D A0 (w ++ wc)) (hk : ∀ q, q < H.size → ¬ va_A wc H.size q → H1[q]? = H[q]?) (hF : ∀ q, va_A wc H.size q → A0 q) (hD1 : va_D (va_A wc H.size) w1) : va_P D vwCl w H1 ∧ va_D A0 w ∧ va_D A0 w1 ∧ ∀ q, inW w q → ¬ inW w1 q := by
  obtain ⟨p1, p2⟩ := P_app hP
  obtain ⟨d1, d2, d3⟩ := D_app hD
  have hn : ∀ q, inW w q → ¬ va_A wc H.size q := fun q ⟨k, x1, h1⟩ h2 => by
    rcases h2 with ⟨j, x2, h2⟩ | h2
    · exact d3 q ⟨k, x1, h1⟩ ⟨j, x2, h2⟩
    · exact absurd (p1 k _ h1).lt (Nat.not_lt.mpr h2)
  exact ⟨fun k q hq => (p1 k q hq).kept (hk q.1 (p1 k q hq).lt (hn q.1 ⟨k, q.2, hq⟩)), d1, hD1.weaken (fun k q _ h1 => hF q.1 h1), fun q h1 ⟨j, x2, hj⟩ => hn q h1 (hD1.2 j _ hj)⟩
theorem lI_0 : lI 0 0 0 0 0 0 (fun _ => nI 0) (fun _ => nI 0) (fun _ => nI 0) (fun _ => nI 0) (fun _ => nI 0) (fun _ => nI 0) (nI 0) (nI 0) 0 0 0 0 (fun _ => nI 0) (fun _ => nI 0) (fun _ => nI 0) (fun _ => nI 0) (fun _ => nI 0) :=
  ⟨Nat.zero_le _, Nat.zero_le _, fun k hk => absurd hk (Nat.not_lt_zero k), Nat.le_refl _, ⟨Nat.zero_le _, Nat.zero_le _, Nat.zero_le _, fun k hk => absurd hk (Nat.not_lt_zero k), fun k hk => absurd hk (Nat.not_lt_zero k), fun k _ hk => absurd hk (Nat.not_lt_zero k)⟩, fun k hk => absurd hk (Nat.not_lt_zero k), ⟨fun h => absurd rfl h, fun h => absurd rfl h.1⟩, fun h => absurd rfl h⟩
theorem len4 {L i : Nat} (hL : L ≤ 2048) (hi : i ≤ L) (h : ¬ nI L - nI 4 < nI i) : i + 4 ≤ L := by
  by_cases h4 : 4 ≤ L
  · rw [pk_sub h4, nI_ltI (by omega) (by omega)] at h
    omega
  · exact absurd (Int32.lt_of_lt_of_le (pk_sneg (by omega) (by omega)) (by rw [← nI_0]; exact nI_le (Nat.zero_le i) (by omega))) h
theorem tab_out : ∀ j, j < 32 → 24 ≤ j → ((nI j).toInt < (0 : Int) ∨ (23 : Int) < (nI j).toInt) := by decide +kernel
theorem ln_cs : (Cond.laysStatic "java/lang/String" "COMPACT_STRINGS" "Z" : Cond) ∈ lw_tbl := List.mem_append_right _ (List.mem_append_left _ (List.mem_of_getElem? (i := 153) (rfl : tables_1_1[153]? = some _)))
theorem ln_sf : (Cond.laysStatic "jdk/internal/util/Preconditions" "SIOOBE_FORMATTER" "Ljava/util/function/BiFunction;" : Cond) ∈ lw_tbl := List.mem_append_right _ (List.mem_append_left _ (List.mem_of_getElem? (i := 169) (rfl : tables_1_1[169]? = some _)))
theorem es_start {s : State} {b : Addr} (hts : ∀ w ∈ lw_tbl, w.before #[Value.ref b] s = true) (hgf : ∀ w ∈ flatC (Jvm.Cond.and given_1 narrow_1), w.before #[Value.ref b] s = true) : ∃ aS aV : Nat, ES aS aV (fun r : Nat => s.heap.size ≤ r) s s.heap ∧ vk_R RX2 233 "htmcb" aS s := by
  have hA : ∀ r : Nat, r < s.heap.size → ¬ (fun r : Nat => s.heap.size ≤ r) r := fun r h => Nat.not_le.mpr h
  obtain ⟨adK, adV, h1, h2⟩ := vk_Sof (args := #[Value.ref b]) (s := s) (N := 1) (tm := fun _ => (Term.string RX2 233)) (len := [5]) (byt := [[104, 116, 109, 99, 98]]) (A := (fun r : Nat => s.heap.size ≤ r))
    (fun i hi => by have e0 : i = 0 := (by omega); subst e0; decide)
    (fun i hi => by have e0 : i = 0 := (by omega); subst e0; exact hgf _ (by decide +kernel))
    (fun i hi => by have e0 : i = 0 := (by omega); subst e0; exact hgf _ (by decide +kernel))
    (fun i hi => by have e0 : i = 0 := (by omega); subst e0; exact hgf _ (by decide +kernel))
    (fun i hi => by have e0 : i = 0 := (by omega); subst e0; exact hgf _ (by decide +kernel))
    (fun i hi j hj => by have e0 : i = 0 := (by omega); subst e0; have hj : j < 5 := hj; rcases (show j = 0 ∨ j = 1 ∨ j = 2 ∨ j = 3 ∨ j = 4 by omega) with rfl | rfl | rfl | rfl | rfl <;> exact hgf _ (by decide +kernel))
    (fun i j hi hj hij => by omega) hA
  refine ⟨adK 0, adV 0, ⟨⟨fun i hi => ?_, fun i j hi hj _ => by omega⟩, va_Zof (hts _ ln_cs) (hts _ (gG_in _ gm_6)) (va_eqt (hgf _ (by decide +kernel))) hA, va_Zqof (hts _ ln_sf) (hts _ (gG_in _ gm_8)) (hgf _ (by decide +kernel)) hA⟩, vk_R.of (hts _ gn_118) (h2 0 (by omega))⟩
  have e0 : i = 0 := by omega
  subst e0
  exact h1.1 0 hi
theorem kp_start {s : State} {b : Addr} {aS : Nat} (hg : ∀ w ∈ gG, w.before #[Value.ref b] s = true) (hts : ∀ w ∈ lw_tbl, w.before #[Value.ref b] s = true) (hsr : vk_R RX2 233 "htmcb" aS s) : ∃ (D : va_G) (cI cB : ClassId), KP D cI cB aS s := by
  obtain ⟨c0, i0, k0⟩ := u_known (C := RX0) (T := TX0) (N := 11) (n := 11) hg us_X0 (hg _ gm_30)
  obtain ⟨c1, i1, k1⟩ := u_known (C := RX1) (T := TX1) (N := 1) (n := 1) hg us_X1 (hg _ gm_21)
  obtain ⟨c2, i2, k2⟩ := u_known (C := RX2) (T := TX2) (N := 11) (n := 11) hg us_X2 (hg _ gm_13)
  obtain ⟨c3, i3, k3⟩ := u_known (C := RX3) (T := TX3) (N := 32) (n := 32) hg us_X3 (hg _ gm_396)
  obtain ⟨cI, kI, oI, fI, vI, dI⟩ := Cond.arrayClass_spec (hg _ gm_28)
  obtain ⟨cB, kB, oB, fB, vB, dB⟩ := Cond.arrayClass_spec (hg _ gm_162)
  refine ⟨(fun k => if k = 0 then c0 else if k = 1 then c1 else if k = 2 then c2 else c3, fun k => if k = 0 then i0 else if k = 1 then i1 else if k = 2 then i2 else i3), cI, cB, ⟨fun k q hq => ?_, fun k q hq => ?_⟩, fun q hq => ?_, va_Nw.of rfl (hts _ gn_31), hsr⟩
  · match k, hq with
    | 0, hq => cases hq; exact k0
    | 1, hq => cases hq; exact k1
    | 2, hq => cases hq; exact k2
    | 3, hq => cases hq; exact k3
    | k + 4, hq => simp at hq
  · match k, hq with
    | 0, hq => cases hq; exact ⟨fun n z => ⟨fun k h => (by cases h), kI, vI, oI, dI⟩, fI⟩
    | 1, hq => cases hq; exact ⟨fun n z => ⟨fun k h => (by cases h), kB, vB, oB, dB⟩, fB⟩
    | k + 2, hq => simp at hq
  · simp only [nestF, List.mem_cons, List.not_mem_nil, or_false] at hq
    rcases hq with rfl | rfl | rfl | rfl | rfl | rfl | rfl | rfl | rfl | rfl | rfl
    · exact va_Nw.of rfl (hts _ gn_38)
    · exact va_Nw.of rfl (hts _ gn_40)
    · exact va_Nw.of rfl (hts _ gn_42)
    · exact va_Nw.of rfl (hts _ gn_44)
    · exact va_Nw.of rfl (hts _ gn_46)
    · exact va_Nw.of rfl (hts _ gn_48)
    · exact va_Nw.of rfl (hts _ gn_50)
    · exact va_Nw.of rfl (hts _ gn_52)
    · exact va_Nw.of rfl (hts _ gn_54)
    · exact va_Nw.of rfl (hts _ gn_56)
    · exact va_Nw.of rfl (hts _ gn_58)
set_option maxRecDepth 100000 in
set_option maxHeartbeats 4000000 in
theorem law_loop {p : Program} {l : Launch} {e : Env} {s : State} {m : MethodId} {below : List Frame} {meth : Method} {c : Code} {D : va_G} {cI cB : ClassId} {aS aV : Nat} {a b : Nat → Nat} {q L : Nat} {xs : Nat → Int32} (hr : meth.sig.returnType = ret) (hlocks : meth.locks = false) (C : lC p s m c #[Value.ref q] D cI cB aS aV a b q L xs) : ∀ (k i : Nat), L < i + k → i ≤ L → ∀ (H : Heap) (locs : List Loc), lJ D cI cB a b s i H locs → ∀ (ls : Array Slot), lv_has ls 4 [(3, .int (nI i)), (2, .ref (b 0)), (1, .ref (a 0)), (0, .ref q)] → W p l e room_1 s m #[Value.ref q] below meth c H locs 59 1093 (lw_Z below #[Value.ref q] s) (F0 m 18 ls []) := by
  obtain ⟨hx, hb, hml, hown, hg, hK, hE0, hX, hbl, hL, hDX, hDM, hAP⟩ := id C
  have hbA : ¬ (fun r : Nat => s.heap.size ≤ r) q := Nat.not_le.mpr hbl
  intro k
  induction k with
  | zero =>
    intro i h1 h2
    exact absurd h1 (by omega)
  | succ k ih =>
    intro i h1 hi0 H locs J ls hl
    have J9 := J
    obtain ⟨pl, n, st, ik, td, nd, nh, bs, ktd, knd, knh, kbs, pg, kd, ag, pa, bo, dm, dn, hh, hn, kag, kpa, kbo, kdm, kdn, khh, khn, wb, ps, ty, bo2, kbo2, sv, sd, ik2, ks, hf, hst, hI, hPX, hPM, hS⟩ := J9
    clear hst hI hPX hPM
    refine lv_iload_n hx hb dL_law_18 rfl (lv_at hl 0 rfl) ?_
    refine lv_aload_n hx hb dL_law_19 rfl (lv_at hl 3 rfl) ?_
    refine va_slen hx hb hX hbl hbA hS dL_law_20 ?_
    refine lv_iconst (v := nI 4) hx hb dL_law_21 (by decide) ?_
    refine lv_isub hx hb dL_law_22 ?_
    refine lv_icmp_gt (tgt := 693) hx hb dL_law_23 (by decide) (fun c1 => ?_) (fun c1 => ?_)
    · refine lv_iconst (v := 1) hx hb dL_law_693 (by decide) ?_
      refine va_forget (fun r h9 => hS.2.2 r h9) ?_
      refine W.widen (k := 600000) (n := 7302249) (by omega) (by omega) ?_
      exact lw_ret hx hb hr hlocks dL_law_694
    · have hi : i + 4 ≤ L := len4 hL hi0 c1
      have hc : 59 ≤ room_1.cells ∧ 1093 ≤ room_1.slots := ⟨Nat.le_of_ble_eq_true rfl, Nat.le_of_ble_eq_true rfl⟩
      have kk : ∀ (H : Heap) (locs : List Loc), lJ D cI cB a b s (i + 1) H locs → W p l e room_1 s m #[Value.ref q] below meth c H locs 59 1093 (lw_Z below #[Value.ref q] s) (F0 m 687 ls []) := by
        intro H locs J2
        refine lv_iinc (v := nI (i + 4)) (lv' := [(3, .int (nI (i + 4))), (2, .ref (b 0)), (1, .ref (a 0)), (0, .ref q)]) hx hb dL_law_687 hl (k := 0) rfl (nI_add i 4) (by decide) rfl (fun ls hl => ?_)
        refine lv_goto (tgt := 18) hx hb dL_law_690 (by decide) ?_
        exact ih (i + 4) (by omega) hi H locs (J2.le (by omega)) ls hl
      refine lv_aload_n hx hb dL_law_26 rfl (lv_at hl 3 rfl) ?_
      refine lv_iload_n hx hb dL_law_27 rfl (lv_at hl 0 rfl) ?_
      refine va_sld hx hb hX hbl hbA hS (pk_in i L (by omega)) dL_law_28 ?_
      refine lv_bipush (v := nI 31) hx hb dL_law_29 (by decide) ?_
      refine lv_iand hx hb dL_law_31 ?_
      obtain ⟨j, hj, ej⟩ := pk_andE (xs (nI i).toNatClampNeg) (m := nI 31) 5 (by decide)
      rw [ej]
      clear ej
      by_cases h24 : 24 ≤ j
      · refine lv_tableOut (tgt := 687) hx hb dL_law_32 (tab_out j hj h24) (by decide) ?_
        exact kk H locs (J.le (by omega))
      · rcases (show j = 0 ∨ j = 1 ∨ j = 2 ∨ j = 3 ∨ j = 4 ∨ j = 5 ∨ j = 6 ∨ j = 7 ∨ j = 8 ∨ j = 9 ∨ j = 10 ∨ j = 11 ∨ j = 12 ∨ j = 13 ∨ j = 14 ∨ j = 15 ∨ j = 16 ∨ j = 17 ∨ j = 18 ∨ j = 19 ∨ j = 20 ∨ j = 21 ∨ j = 22 ∨ j = 23 by omega) with rfl | rfl | rfl | rfl | rfl | rfl | rfl | rfl | rfl | rfl | rfl | rfl | rfl | rfl | rfl | rfl | rfl | rfl | rfl | rfl | rfl | rfl | rfl | rfl
        · exact lv_tableIn (off := 112) (tgt := 144) hx hb dL_law_32 (by decide) (by decide) rfl (by decide) (law_letter C hc hi J hl kk)
        · exact lv_tableIn (off := 135) (tgt := 167) hx hb dL_law_32 (by decide) (by decide) rfl (by decide) (law_blank C hc hi J hl kk)
        · exact lv_tableIn (off := 148) (tgt := 180) hx hb dL_law_32 (by decide) (by decide) rfl (by decide) (law_fault C hc hi J hl kk)
        · exact lv_tableIn (off := 161) (tgt := 193) hx hb dL_law_32 (by decide) (by decide) rfl (by decide) (law_street C hc hi J hl kk)
        · exact lv_tableIn (off := 174) (tgt := 206) hx hb dL_law_32 (by decide) (by decide) rfl (by decide) (law_about C hc hi J hl kk)
        · exact lv_tableIn (off := 207) (tgt := 239) hx hb dL_law_32 (by decide) (by decide) rfl (by decide) (law_as C hc hi J hl kk)
        · exact lv_tableIn (off := 240) (tgt := 272) hx hb dL_law_32 (by decide) (by decide) rfl (by decide) (law_birth C hc hi J hl kk)
        · exact lv_tableIn (off := 263) (tgt := 295) hx hb dL_law_32 (by decide) (by decide) rfl (by decide) (law_day C hc hi J hl kk)
        · exact lv_tableIn (off := 276) (tgt := 308) hx hb dL_law_32 (by decide) (by decide) rfl (by decide) (law_then C hc hi J hl kk)
        · exact lv_tableIn (off := 309) (tgt := 341) hx hb dL_law_32 (by decide) (by decide) rfl (by decide) (law_goesTo C hc hi J hl kk)
        · exact lv_tableIn (off := 342) (tgt := 374) hx hb dL_law_32 (by decide) (by decide) rfl (by decide) (law_walk C hc hi J hl kk)
        · exact lv_tableIn (off := 355) (tgt := 387) hx hb dL_law_32 (by decide) (by decide) rfl (by decide) (law_debt C hc hi J hl kk)
        · exact lv_tableIn (off := 388) (tgt := 420) hx hb dL_law_32 (by decide) (by decide) rfl (by decide) (law_pay C hc hi J hl kk)
        · exact lv_tableIn (off := 401) (tgt := 433) hx hb dL_law_32 (by decide) (by decide) rfl (by decide) (law_cheap C hc hi J hl kk)
        · exact lv_tableIn (off := 434) (tgt := 466) hx hb dL_law_32 (by decide) (by decide) rfl (by decide) (law_when C hc hi J hl kk)
        · exact lv_tableIn (off := 467) (tgt := 499) hx hb dL_law_32 (by decide) (by decide) rfl (by decide) (law_hear C hc hi J hl kk)
        · exact lv_tableIn (off := 500) (tgt := 532) hx hb dL_law_32 (by decide) (by decide) rfl (by decide) (law_forget C hc hi J hl kk)
        · exact lv_tableIn (off := 513) (tgt := 545) hx hb dL_law_32 (by decide) (by decide) rfl (by decide) (law_days C hc hi J hl kk)
        · exact lv_tableIn (off := 536) (tgt := 568) hx hb dL_law_32 (by decide) (by decide) rfl (by decide) (law_ask C hc hi J hl kk)
        · exact lv_tableIn (off := 549) (tgt := 581) hx hb dL_law_32 (by decide) (by decide) rfl (by decide) (law_years C hc hi J hl kk)
        · exact lv_tableIn (off := 592) (tgt := 624) hx hb dL_law_32 (by decide) (by decide) rfl (by decide) (law_image C hc hi J hl kk)
        · exact lv_tableIn (off := 605) (tgt := 637) hx hb dL_law_32 (by decide) (by decide) rfl (by decide) (law_restore C hc hi J hl kk)
        · exact lv_tableIn (off := 618) (tgt := 650) hx hb dL_law_32 (by decide) (by decide) rfl (by decide) (law_count C hc hi J hl kk)
        · exact lv_tableIn (off := 641) (tgt := 673) hx hb dL_law_32 (by decide) (by decide) rfl (by decide) (law_digest C hc hi J hl kk)
set_option maxRecDepth 100000 in
set_option maxHeartbeats 4000000 in
theorem whole_start {p : Program} {e : Env} {s : State} {m : MethodId} {below : List Frame} {meth : Method} {c : Code} (l : Launch) (hflags : l.flags = flags0) {b L : Nat} {xs : Nat → Int32} (hL : L ≤ 2048) (C0 : lw_At p s m meth c b L xs) : W p l e room_1 s m #[Value.ref b] below meth c s.heap [] 0 0 (lw_Z below #[Value.ref b] s) (entryFrame m ([Value.ref b] : List Value).toArray 4) := by
  obtain ⟨hx, hb, hr, hml, hown, hts, hX, hbl, hlocks, hgv⟩ := C0
  have hown : s.vm.findClass RL = some m.cls := hown
  have hg : ∀ w ∈ gG, w.before #[Value.ref b] s = true := fun w h => hts w (gG_in w h)
  have hgf := flat_of_before _ hgv
  obtain ⟨aS, aV, hES, hsr⟩ := es_start hts hgf
  obtain ⟨D, cI, cB, hK⟩ := kp_start hg hts hsr
  have hA : ∀ r : Nat, s.heap.size ≤ r → (fun r : Nat => s.heap.size ≤ r) r := fun _ h => h
  have hS : va_S (fun r : Nat => s.heap.size ≤ r) s.heap s.heap [] := va_S.rf
  have hP : va_P D vwCl [] s.heap := P_n
  have hD : va_D (fun r : Nat => s.heap.size ≤ r) [] := ⟨fun i j p q h => by simp at h, fun k q h => by simp at h⟩
  have hl := lv_entry ([.ref b]) (n := 4) (Nat.le_of_ble_eq_true rfl)
  rw [lg_entry_eq]
  generalize (lg_sl ([.ref b]) ++ List.replicate (4 - (lg_sl ([.ref b])).length) Slot.unset).toArray = ls at hl ⊢
  have hl : lv_has ls 4 [(0, .ref b)] := hl
  refine va_new (ci := 2) (fs := [.null, .int 0, .int 0, .int 0, .null, .null, .null, .int 0, .null, .null, .null]) (C := RX2) (T := TX2) (N := 11) hx hb hg us_X2 tyX2 tyX2_ok hown (hg _ gm_12) (hg _ gm_13) (hg _ gm_2) hK.1 hP hD hS hA rfl (fun j hj => by rcases (show j = 0 ∨ j = 1 ∨ j = 2 ∨ j = 3 ∨ j = 4 ∨ j = 5 ∨ j = 6 ∨ j = 7 ∨ j = 8 ∨ j = 9 ∨ j = 10 by omega) with rfl | rfl | rfl | rfl | rfl | rfl | rfl | rfl | rfl | rfl | rfl <;> rfl) (Nat.le_of_ble_eq_true rfl) (Nat.le_of_ble_eq_true rfl) dL_law_0 (fun q1 H hP hD hS => ?_)
  have hP : va_P D vwCl [(q1, .inr (2, [.null, .int 0, .int 0, .int 0, .null, .null, .null, .int 0, .null, .null, .null]))] H := hP
  have hD : va_D (fun r : Nat => s.heap.size ≤ r) [(q1, .inr (2, [.null, .int 0, .int 0, .int 0, .null, .null, .null, .int 0, .null, .null, .null]))] := hD
  refine lv_dup hx hb dL_law_3 rfl ?_
  have hFc := va_free (wc := [(q1, .inr (2, [.null, .int 0, .int 0, .int 0, .null, .null, .null, .int 0, .null, .null, .null]))]) hD hS hA [0] rfl
  refine va_callv (va_runI (As := []) (rest := [.ref q1]) ⟨hx, hb, hml, hown, hg⟩ (c_X2_init l D cI cB aS q1 H.size (hD.weaken (fun _ _ _ _ => trivial))) (cwI_of hg gm_14 if_X2_init rfl rfl ⟨Nat.le_of_ble_eq_true rfl, Nat.le_of_ble_eq_true rfl⟩) (RPZ.pre hK hP) rfl rfl hl.1 rfl (lv_room (Nat.le_of_ble_eq_true rfl)) dL_law_4 ⟨Nat.le_of_ble_eq_true rfl, Nat.le_of_ble_eq_true rfl⟩) hS (fun r _ h => hFc r h) hFc (fun a t H1 locs1 ht hvm hw hB hz1 hk1 hS => ?_)
  obtain ⟨hP1, hD1⟩ := hB
  rw [ht] at hP1
  have hw : a 0 = q1 := hw
  have hPX : va_P D vwCl (XW cI a 0 0 0 (nI 0) 0 0 0 (nI 0) 0 0 0 (nI 0) (fun _ => nI 0) (fun _ => nI 0) (fun _ => nI 0) (fun _ => nI 0) (fun _ => nI 0) (fun _ => nI 0) (fun _ => nI 0) (fun _ => nI 0) (fun _ => nI 0) (fun _ => nI 0) (fun _ => nI 0) (fun _ => nI 0) (fun _ => nI 0) (fun _ => nI 0) (fun _ => nI 0) (fun _ => nI 0) (fun _ => nI 0) (fun _ => nI 0) (fun _ => nI 0)) H1 := hP1
  have hDX : va_D (fun r : Nat => s.heap.size ≤ r) (XW cI a 0 0 0 (nI 0) 0 0 0 (nI 0) 0 0 0 (nI 0) (fun _ => nI 0) (fun _ => nI 0) (fun _ => nI 0) (fun _ => nI 0) (fun _ => nI 0) (fun _ => nI 0) (fun _ => nI 0) (fun _ => nI 0) (fun _ => nI 0) (fun _ => nI 0) (fun _ => nI 0) (fun _ => nI 0) (fun _ => nI 0) (fun _ => nI 0) (fun _ => nI 0) (fun _ => nI 0) (fun _ => nI 0) (fun _ => nI 0) (fun _ => nI 0)) := hD1.weaken (fun k q _ h1 => hFc q.1 h1)
  clear hP1 hD1 hk1 hFc hP hD
  subst hw
  clear ht
  refine lv_astore_n (lv' := [(1, .ref (a 0)), (0, .ref b)]) hx hb dL_law_7 rfl hl (by decide) rfl (fun ls hl => ?_)
  have hP := hPX
  have hD := hDX
  clear hPX hDX
  refine va_new (ci := 3) (fs := [.int 0, .int 0, .null, .null, .null, .null, .int 0, .int 0, .int 0, .null, .null, .int 0, .null, .null, .int 0, .null, .null, .long 0, .int 0, .int 0, .int 0, .int 0, .int 0, .int 0, .null, .null, .null, .null, .null, .null, .null, .long 0]) (C := RX3) (T := TX3) (N := 32) hx hb hg us_X3 tyX3 tyX3_ok hown (hg _ gm_395) (hg _ gm_396) (hg _ gm_5) hK.1 hP hD hS hA rfl (fun j hj => by rcases (show j = 0 ∨ j = 1 ∨ j = 2 ∨ j = 3 ∨ j = 4 ∨ j = 5 ∨ j = 6 ∨ j = 7 ∨ j = 8 ∨ j = 9 ∨ j = 10 ∨ j = 11 ∨ j = 12 ∨ j = 13 ∨ j = 14 ∨ j = 15 ∨ j = 16 ∨ j = 17 ∨ j = 18 ∨ j = 19 ∨ j = 20 ∨ j = 21 ∨ j = 22 ∨ j = 23 ∨ j = 24 ∨ j = 25 ∨ j = 26 ∨ j = 27 ∨ j = 28 ∨ j = 29 ∨ j = 30 ∨ j = 31 by omega) with rfl | rfl | rfl | rfl | rfl | rfl | rfl | rfl | rfl | rfl | rfl | rfl | rfl | rfl | rfl | rfl | rfl | rfl | rfl | rfl | rfl | rfl | rfl | rfl | rfl | rfl | rfl | rfl | rfl | rfl | rfl | rfl <;> rfl) (Nat.le_of_ble_eq_true rfl) (Nat.le_of_ble_eq_true rfl) dL_law_8 (fun q2 H hP hD hS => ?_)
  obtain ⟨hPa, hPc⟩ := P_app hP
  obtain ⟨hDa, hDc, hap⟩ := D_app hD
  refine lv_dup hx hb dL_law_11 rfl ?_
  have hFc : ∀ r, va_A [(q2, .inr (3, [.int 0, .int 0, .null, .null, .null, .null, .int 0, .int 0, .int 0, .null, .null, .int 0, .null, .null, .int 0, .null, .null, .long 0, .int 0, .int 0, .int 0, .int 0, .int 0, .int 0, .null, .null, .null, .null, .null, .null, .null, .long 0]))] H.size r → (fun r : Nat => s.heap.size ≤ r) r := fun r h => h.elim (fun ⟨k, x1, h1⟩ => hDc.2 k _ h1) (fun h1 => hA r (Nat.le_trans hS.1 h1))
  refine va_callv (va_runI (As := []) (rest := [.ref q2]) ⟨hx, hb, hml, hown, hg⟩ (c_X3_init l D cI cB aS q2 H.size (hDc.weaken (fun _ _ _ _ => trivial))) (cwI_of hg gm_397 if_X3_init rfl rfl ⟨Nat.le_of_ble_eq_true rfl, Nat.le_of_ble_eq_true rfl⟩) (RPZ.pre hK hPc) rfl rfl hl.1 rfl (lv_room (Nat.le_of_ble_eq_true rfl)) dL_law_12 ⟨Nat.le_of_ble_eq_true rfl, Nat.le_of_ble_eq_true rfl⟩) hS (fun r _ h => hFc r h) hFc (fun b2 t H2 locs2 ht hvm2 hw hB hz2 hk2 hS => ?_)
  obtain ⟨hP1, hD1⟩ := hB
  rw [ht] at hP1
  have hw : b2 0 = q2 := hw
  obtain ⟨hPX, hDX, hDM, hAP⟩ := join2 hP hD hk2 hFc hD1
  have hPM : va_P D vwCl (MW cI cB b2 0 0 0 0 0 0 (nI 0) (fun _ => nI 0) (fun _ => nI 0) (fun _ => nI 0) (fun _ => nI 0) (fun _ => nI 0) (fun _ => nI 0) (fun _ => nI 0) (fun _ => nI 0) (fun _ => nI 0) (fun _ => nI 0) 0 (nI 0) 0 0 0 0 (nI 0) (fun _ => nI 0) (fun _ => nI 0) (fun _ => nI 0) (fun _ => nI 0) (fun _ => nI 0) (fun _ => nI 0) (fun _ => nI 0) 0) H2 := hP1
  clear hP1 hD1 hk2 hFc hP hD hPa hPc hDa hDc hap
  subst hw
  refine lv_astore_n (lv' := [(2, .ref (b2 0)), (1, .ref (a 0)), (0, .ref b)]) hx hb dL_law_15 rfl hl (by decide) rfl (fun ls hl => ?_)
  refine lv_iconst (v := nI 0) hx hb dL_law_16 (by decide) ?_
  refine lv_istore_n (lv' := [(3, .int (nI 0)), (2, .ref (b2 0)), (1, .ref (a 0)), (0, .ref b)]) hx hb dL_law_17 rfl hl (by decide) rfl (fun ls hl => ?_)
  exact law_loop hr hlocks (D := D) (cI := cI) (cB := cB) (aS := aS) (aV := aV) (a := a) (b := b2) (L := L) (xs := xs) ⟨hx, hb, hml, hown, hg, hK, hES, hX, hbl, hL, fun w hw => hDX.addr (hw.trans XW_addr.symm), fun w hw => hDM.addr (hw.trans MW_addr.symm), fun w w2 hw hw2 r h1 h2 => hAP r (inW.addr (hw.trans XW_addr.symm) h1) (inW.addr (hw2.trans MW_addr.symm) h2)⟩ (L + 1) 0 (by omega) (Nat.zero_le _) _ _ (lJ.of hPX hPM hS (Nat.le_refl _) lI_0) ls hl
