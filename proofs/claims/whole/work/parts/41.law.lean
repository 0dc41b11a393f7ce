theorem abt_c {n nd : Nat} {kd ag bo bo2 dm dn : Nat → Int32} {x w : Int32} (hn6 : n ≤ 6) (h : ∀ j, j < n → bo j = bo2 j) : abtF n kd ag bo dm dn nd x w = abtF n kd ag bo2 dm dn nd x w := by
  unfold abtF
  by_cases a : hIn n x
  · rw [if_pos a, if_pos a]
    by_cases b : x_in w 5
    · rw [if_pos b, if_pos b]
      obtain ⟨j, hj, ej⟩ := hIn_of a (by omega)
      subst ej
      rw [nI_clamp (by omega)]
      exact abF_c (h j hj)
    · rw [if_neg b, if_neg b]
  · rw [if_neg a, if_neg a]
theorem vf_X2_letter : vfacts RX2 yX2_letter cX2_letter 2 (some .int) 1 := ⟨⟨rfl, by decide +kernel, by decide +kernel, by decide +kernel⟩, gm_93, gm_94, gm_2, gm_95⟩
theorem vf_X3_letter : vfacts RX3 yX3_letter cX3_letter 2 (some .int) 1 := ⟨⟨rfl, by decide +kernel, by decide +kernel, by decide +kernel⟩, gm_466, gm_467, gm_5, gm_468⟩
set_option maxRecDepth 100000 in
set_option maxHeartbeats 4000000 in
theorem law_letter {p : Program} {l : Launch} {e : Env} {s : State} {m : MethodId} {args : Array Value} {below : List Frame} {meth : Method} {c : Code} {D : va_G} {cI cB : ClassId} {aS aV : Nat} {a b : Nat → Nat} {q L : Nat} {xs : Nat → Int32} {cells slots : Nat} {Q : State → Prop} (C : lC p s m c args D cI cB aS aV a b q L xs) (hc : cells ≤ room_1.cells ∧ slots ≤ room_1.slots) {i : Nat} (hi : i + 4 ≤ L) {H : Heap} {locs : List Loc} (J : lJ D cI cB a b s i H locs) {ls : Array Slot} (hl : lv_has ls 4 [(3, .int (nI i)), (2, .ref (b 0)), (1, .ref (a 0)), (0, .ref q)]) (kk : ∀ (H : Heap) (locs : List Loc), lJ D cI cB a b s (i + 1) H locs → W p l e room_1 s m args below meth c H locs cells slots Q (F0 m 687 ls [])) : W p l e room_1 s m args below meth c H locs cells slots Q (F0 m 144 ls []) := by
  obtain ⟨hx, hb, hml, hown, hg, hK, hE0, hX, hbl, hL, hDX, hDM, hAP⟩ := C
  obtain ⟨pl, n, st, ik, td, nd, nh, bs, ktd, knd, knh, kbs, pg, kd, ag, pa, bo, dm, dn, hh, hn, kag, kpa, kbo, kdm, kdn, khh, khn, wb, ps, ty, bo2, kbo2, sv, sd, ik2, ks, hf, hst, hI, hPX, hPM, hS⟩ := J
  have hbA : ¬ (fun r : Nat => s.heap.size ≤ r) q := Nat.not_le.mpr hbl
  obtain ⟨hn6, qpl, qpg, hks, ⟨qt, qnd, qnh, qhh, qok⟩, hbo, hik, hkp⟩ := id hI
  refine lv_aload_n hx hb dL_law_144 rfl (lv_at hl 2 rfl) ?_
  refine lv_aload_n hx hb dL_law_145 rfl (lv_at hl 3 rfl) ?_
  refine lv_iload_n hx hb dL_law_146 rfl (lv_at hl 0 rfl) ?_
  refine lv_iconst (v := nI 1) hx hb dL_law_147 (by decide) ?_
  refine nv_iadd hx hb dL_law_148 ?_
  refine va_sld hx hb hX hbl hbA hS (pk_in (i + 1) L (by omega)) dL_law_149 ?_
  refine wrVi (As := [.int (xs (nI (i + 1)).toNatClampNeg)]) (rest := []) hx hb hml hown hg (c_X2_letter l D cI cB aS a pl n st ik td nd nh bs ktd knd knh kbs pg kd ag pa bo dm dn hh hn kag kpa kbo kdm kdn khh khn wb ps ty (xs (nI (i + 1)).toNatClampNeg) ((hDX _ XW_addr).weaken (fun _ _ _ _ => trivial)) qpl) gm_92 vf_X2_letter ⟨Nat.le_of_ble_eq_true rfl, Nat.le_of_ble_eq_true rfl⟩ ⟨rfl, rfl⟩ hc (RP.preV hK hPX (q0 := 0) (ci := 2) XW_g0 rfl) rfl hl.1 rfl (Nat.le_of_ble_eq_true rfl) dL_law_150 hS (inW_all (hDX _ XW_addr)) (fun r_1 u_1 H1 locs1 hpo_1 hP1 hk1 hS1 => ?_)
  have hPM := wkept hPM (fun r h1 h2 => hAP _ _ XW_addr MW_addr r h2 h1) hk1
  clear hk1
  have hS := hS1
  have er_1 : r_1 = (letF pg pl (xs (nI (i + 1)).toNatClampNeg)).1 := congrArg Prod.fst hpo_1
  have eu_1 : u_1 = (letF pg pl (xs (nI (i + 1)).toNatClampNeg)).2 := congrArg Prod.snd hpo_1
  clear hpo_1
  subst eu_1
  have hPX : va_P D vwCl (XW cI a ((letF pg pl (xs (nI (i + 1)).toNatClampNeg)).2.2) n st ik td nd nh bs ktd knd knh kbs ((letF pg pl (xs (nI (i + 1)).toNatClampNeg)).2.1) kd ag pa bo dm dn hh hn kag kpa kbo kdm kdn khh khn wb ps ty) H1 := hP1
  clear hP1
  refine lv_aload_n hx hb dL_law_153 rfl (lv_at hl 1 rfl) ?_
  refine lv_aload_n hx hb dL_law_154 rfl (lv_at hl 3 rfl) ?_
  refine lv_iload_n hx hb dL_law_155 rfl (lv_at hl 0 rfl) ?_
  refine lv_iconst (v := nI 1) hx hb dL_law_156 (by decide) ?_
  refine nv_iadd hx hb dL_law_157 ?_
  refine va_sld hx hb hX hbl hbA hS (pk_in (i + 1) L (by omega)) dL_law_158 ?_
  refine wrVi (As := [.int (xs (nI (i + 1)).toNatClampNeg)]) (rest := [.int r_1]) hx hb hml hown hg (c_X3_letter l D cI cB aS b st n td nd nh pl bs kd ag bo2 pa dm dn hh hn pg sv sd ik2 ks ktd knd knh kbs kag kbo2 kpa kdm kdn khh khn hf (xs (nI (i + 1)).toNatClampNeg) ((hDM _ MW_addr).weaken (fun _ _ _ _ => trivial)) qpl) gm_465 vf_X3_letter ⟨Nat.le_of_ble_eq_true rfl, Nat.le_of_ble_eq_true rfl⟩ ⟨rfl, rfl⟩ hc (RP.preV hK hPM (q0 := 0) (ci := 3) MW_g0 rfl) rfl hl.1 rfl (Nat.le_of_ble_eq_true rfl) dL_law_159 hS (inW_all (hDM _ MW_addr)) (fun r_2 u_2 H2 locs2 hpo_2 hP2 hk2 hS2 => ?_)
  have hPX := wkept hPX (fun r h1 h2 => hAP _ _ XW_addr MW_addr r h1 h2) hk2
  clear hk2
  have hS := hS2
  have er_2 : r_2 = (letF pg pl (xs (nI (i + 1)).toNatClampNeg)).1 := congrArg Prod.fst hpo_2
  have eu_2 : u_2 = (letF pg pl (xs (nI (i + 1)).toNatClampNeg)).2 := congrArg Prod.snd hpo_2
  clear hpo_2
  subst eu_2
  have hPM : va_P D vwCl (MW cI cB b st n td nd nh ((letF pg pl (xs (nI (i + 1)).toNatClampNeg)).2.2) bs kd ag bo2 pa dm dn hh hn ((letF pg pl (xs (nI (i + 1)).toNatClampNeg)).2.1) sv sd ik2 ks ktd knd knh kbs kag kbo2 kpa kdm kdn khh khn hf) H2 := hP2
  refine lv_icmp_eq (tgt := 687) hx hb dL_law_162 (by decide) (fun _ => ?_) (fun h9 => absurd (er_1.trans er_2.symm) h9)
  exact kk _ _ (lJ.of hPX hPM hS (by omega) (hI.page (let_ok qpl qpg).1 (let_ok qpl qpg).2))
theorem vf_X2_blank : vfacts RX2 yX2_blank cX2_blank 2 (some .int) 0 := ⟨⟨rfl, by decide +kernel, by decide +kernel, by decide +kernel⟩, gm_101, gm_102, gm_2, gm_103⟩
theorem vf_X3_blank : vfacts RX3 yX3_blank cX3_blank 2 (some .int) 0 := ⟨⟨rfl, by decide +kernel, by decide +kernel, by decide +kernel⟩, gm_473, gm_474, gm_5, gm_475⟩
set_option maxRecDepth 100000 in
set_option maxHeartbeats 4000000 in
theorem law_blank {p : Program} {l : Launch} {e : Env} {s : State} {m : MethodId} {args : Array Value} {below : List Frame} {meth : Method} {c : Code} {D : va_G} {cI cB : ClassId} {aS aV : Nat} {a b : Nat → Nat} {q L : Nat} {xs : Nat → Int32} {cells slots : Nat} {Q : State → Prop} (C : lC p s m c args D cI cB aS aV a b q L xs) (hc : cells ≤ room_1.cells ∧ slots ≤ room_1.slots) {i : Nat} (hi : i + 4 ≤ L) {H : Heap} {locs : List Loc} (J : lJ D cI cB a b s i H locs) {ls : Array Slot} (hl : lv_has ls 4 [(3, .int (nI i)), (2, .ref (b 0)), (1, .ref (a 0)), (0, .ref q)]) (kk : ∀ (H : Heap) (locs : List Loc), lJ D cI cB a b s (i + 1) H locs → W p l e room_1 s m args below meth c H locs cells slots Q (F0 m 687 ls [])) : W p l e room_1 s m args below meth c H locs cells slots Q (F0 m 167 ls []) := by
  obtain ⟨hx, hb, hml, hown, hg, hK, hE0, hX, hbl, hL, hDX, hDM, hAP⟩ := C
  obtain ⟨pl, n, st, ik, td, nd, nh, bs, ktd, knd, knh, kbs, pg, kd, ag, pa, bo, dm, dn, hh, hn, kag, kpa, kbo, kdm, kdn, khh, khn, wb, ps, ty, bo2, kbo2, sv, sd, ik2, ks, hf, hst, hI, hPX, hPM, hS⟩ := J
  have hbA : ¬ (fun r : Nat => s.heap.size ≤ r) q := Nat.not_le.mpr hbl
  obtain ⟨hn6, qpl, qpg, hks, ⟨qt, qnd, qnh, qhh, qok⟩, hbo, hik, hkp⟩ := id hI
  refine lv_aload_n hx hb dL_law_167 rfl (lv_at hl 2 rfl) ?_
  refine wrVi (As := []) (rest := []) hx hb hml hown hg (c_X2_blank l D cI cB aS a pl n st ik td nd nh bs ktd knd knh kbs pg kd ag pa bo dm dn hh hn kag kpa kbo kdm kdn khh khn wb ps ty ((hDX _ XW_addr).weaken (fun _ _ _ _ => trivial))) gm_100 vf_X2_blank ⟨Nat.le_of_ble_eq_true rfl, Nat.le_of_ble_eq_true rfl⟩ ⟨rfl, rfl⟩ hc (RP.preV hK hPX (q0 := 0) (ci := 2) XW_g0 rfl) rfl hl.1 rfl (Nat.le_of_ble_eq_true rfl) dL_law_168 hS (inW_all (hDX _ XW_addr)) (fun r_1 u_1 H1 locs1 hpo_1 hP1 hk1 hS1 => ?_)
  have hPM := wkept hPM (fun r h1 h2 => hAP _ _ XW_addr MW_addr r h2 h1) hk1
  clear hk1
  have hS := hS1
  have hPX : va_P D vwCl (XW cI a 0 n st ik td nd nh bs ktd knd knh kbs pg kd ag pa bo dm dn hh hn kag kpa kbo kdm kdn khh khn wb ps ty) H1 := hP1
  clear hP1
  refine lv_aload_n hx hb dL_law_171 rfl (lv_at hl 1 rfl) ?_
  refine wrVi (As := []) (rest := [.int r_1]) hx hb hml hown hg (c_X3_blank l D cI cB aS b st n td nd nh pl bs kd ag bo2 pa dm dn hh hn pg sv sd ik2 ks ktd knd knh kbs kag kbo2 kpa kdm kdn khh khn hf ((hDM _ MW_addr).weaken (fun _ _ _ _ => trivial))) gm_472 vf_X3_blank ⟨Nat.le_of_ble_eq_true rfl, Nat.le_of_ble_eq_true rfl⟩ ⟨rfl, rfl⟩ hc (RP.preV hK hPM (q0 := 0) (ci := 3) MW_g0 rfl) rfl hl.1 rfl (Nat.le_of_ble_eq_true rfl) dL_law_172 hS (inW_all (hDM _ MW_addr)) (fun r_2 u_2 H2 locs2 hpo_2 hP2 hk2 hS2 => ?_)
  have hPX := wkept hPX (fun r h1 h2 => hAP _ _ XW_addr MW_addr r h1 h2) hk2
  clear hk2
  have hS := hS2
  have hPM : va_P D vwCl (MW cI cB b st n td nd nh 0 bs kd ag bo2 pa dm dn hh hn pg sv sd ik2 ks ktd knd knh kbs kag kbo2 kpa kdm kdn khh khn hf) H2 := hP2
  refine lv_icmp_eq (tgt := 687) hx hb dL_law_175 (by decide) (fun _ => ?_) (fun h9 => absurd (hpo_1.trans hpo_2.symm) h9)
  exact kk _ _ (lJ.of hPX hPM hS (by omega) (hI.page (Nat.zero_le _) (fun k hk => absurd hk (Nat.not_lt_zero k))))
theorem vf_X3_fault : vfacts RX3 yX3_fault cX3_fault 1 (some .int) 0 := ⟨⟨rfl, by decide +kernel, by decide +kernel, by decide +kernel⟩, gm_477, gm_478, gm_5, gm_479⟩
set_option maxRecDepth 100000 in
set_option maxHeartbeats 4000000 in
theorem law_fault {p : Program} {l : Launch} {e : Env} {s : State} {m : MethodId} {args : Array Value} {below : List Frame} {meth : Method} {c : Code} {D : va_G} {cI cB : ClassId} {aS aV : Nat} {a b : Nat → Nat} {q L : Nat} {xs : Nat → Int32} {cells slots : Nat} {Q : State → Prop} (C : lC p s m c args D cI cB aS aV a b q L xs) (hc : cells ≤ room_1.cells ∧ slots ≤ room_1.slots) {i : Nat} (hi : i + 4 ≤ L) {H : Heap} {locs : List Loc} (J : lJ D cI cB a b s i H locs) {ls : Array Slot} (hl : lv_has ls 4 [(3, .int (nI i)), (2, .ref (b 0)), (1, .ref (a 0)), (0, .ref q)]) (kk : ∀ (H : Heap) (locs : List Loc), lJ D cI cB a b s (i + 1) H locs → W p l e room_1 s m args below meth c H locs cells slots Q (F0 m 687 ls [])) : W p l e room_1 s m args below meth c H locs cells slots Q (F0 m 180 ls []) := by
  obtain ⟨hx, hb, hml, hown, hg, hK, hE0, hX, hbl, hL, hDX, hDM, hAP⟩ := C
  obtain ⟨pl, n, st, ik, td, nd, nh, bs, ktd, knd, knh, kbs, pg, kd, ag, pa, bo, dm, dn, hh, hn, kag, kpa, kbo, kdm, kdn, khh, khn, wb, ps, ty, bo2, kbo2, sv, sd, ik2, ks, hf, hst, hI, hPX, hPM, hS⟩ := J
  have hbA : ¬ (fun r : Nat => s.heap.size ≤ r) q := Nat.not_le.mpr hbl
  obtain ⟨hn6, qpl, qpg, hks, ⟨qt, qnd, qnh, qhh, qok⟩, hbo, hik, hkp⟩ := id hI
  refine lv_aload_n hx hb dL_law_180 rfl (lv_at hl 2 rfl) ?_
  refine rdV (As := []) (rest := []) hx hb hml hown hg (c_X2_fault l D cI cB aS aV a pl n st ik td nd nh bs ktd knd knh kbs pg kd ag pa bo dm dn hh hn kag kpa kbo kdm kdn khh khn wb ps ty qpl qpg) gm_104 vf_X2_fault ⟨Nat.le_of_ble_eq_true rfl, Nat.le_of_ble_eq_true rfl⟩ ⟨rfl, rfl⟩ hc (RPE.preV hK ((hE0.kept hS.2.1).none) hPX (q0 := 0) (ci := 2) XW_g0 rfl) rfl hl.1 rfl (Nat.le_of_ble_eq_true rfl) dL_law_181 ?_
  refine lv_aload_n hx hb dL_law_184 rfl (lv_at hl 1 rfl) ?_
  refine rdV (As := []) (rest := [.int _]) hx hb hml hown hg (c_X3_fault l D cI cB aS b st n td nd nh pl bs kd ag bo2 pa dm dn hh hn pg sv sd ik2 ks ktd knd knh kbs kag kbo2 kpa kdm kdn khh khn hf qpl qpg) gm_476 vf_X3_fault ⟨Nat.le_of_ble_eq_true rfl, Nat.le_of_ble_eq_true rfl⟩ ⟨rfl, rfl⟩ hc (RP.preV hK hPM (q0 := 0) (ci := 3) MW_g0 rfl) rfl hl.1 rfl (Nat.le_of_ble_eq_true rfl) dL_law_185 ?_
  refine lv_icmp_eq (tgt := 687) hx hb dL_law_188 (by decide) (fun _ => ?_) (fun h9 => absurd (rfl) h9)
  exact kk _ _ (lJ.of hPX hPM hS (by omega) hI)
theorem vf_X2_street : vfacts RX2 yX2_street cX2_street 4 (some .int) 0 := ⟨⟨rfl, by decide +kernel, by decide +kernel, by decide +kernel⟩, gm_164, gm_165, gm_2, gm_166⟩
theorem vf_X3_street : vfacts RX3 yX3_street cX3_street 2 (some .int) 0 := ⟨⟨rfl, by decide +kernel, by decide +kernel, by decide +kernel⟩, gm_490, gm_491, gm_5, gm_492⟩
set_option maxRecDepth 100000 in
set_option maxHeartbeats 4000000 in
theorem law_street {p : Program} {l : Launch} {e : Env} {s : State} {m : MethodId} {args : Array Value} {below : List Frame} {meth : Method} {c : Code} {D : va_G} {cI cB : ClassId} {aS aV : Nat} {a b : Nat → Nat} {q L : Nat} {xs : Nat → Int32} {cells slots : Nat} {Q : State → Prop} (C : lC p s m c args D cI cB aS aV a b q L xs) (hc : cells ≤ room_1.cells ∧ slots ≤ room_1.slots) {i : Nat} (hi : i + 4 ≤ L) {H : Heap} {locs : List Loc} (J : lJ D cI cB a b s i H locs) {ls : Array Slot} (hl : lv_has ls 4 [(3, .int (nI i)), (2, .ref (b 0)), (1, .ref (a 0)), (0, .ref q)]) (kk : ∀ (H : Heap) (locs : List Loc), lJ D cI cB a b s (i + 1) H locs → W p l e room_1 s m args below meth c H locs cells slots Q (F0 m 687 ls [])) : W p l e room_1 s m args below meth c H locs cells slots Q (F0 m 193 ls []) := by
  obtain ⟨hx, hb, hml, hown, hg, hK, hE0, hX, hbl, hL, hDX, hDM, hAP⟩ := C
  obtain ⟨pl, n, st, ik, td, nd, nh, bs, ktd, knd, knh, kbs, pg, kd, ag, pa, bo, dm, dn, hh, hn, kag, kpa, kbo, kdm, kdn, khh, khn, wb, ps, ty, bo2, kbo2, sv, sd, ik2, ks, hf, hst, hI, hPX, hPM, hS⟩ := J
  have hbA : ¬ (fun r : Nat => s.heap.size ≤ r) q := Nat.not_le.mpr hbl
  obtain ⟨hn6, qpl, qpg, hks, ⟨qt, qnd, qnh, qhh, qok⟩, hbo, hik, hkp⟩ := id hI
  refine lv_aload_n hx hb dL_law_193 rfl (lv_at hl 2 rfl) ?_
  refine wrVi (As := []) (rest := []) hx hb hml hown hg (c_X2_street l D cI cB aS aV a pl n st ik td nd nh bs ktd knd knh kbs pg kd ag pa bo dm dn hh hn kag kpa kbo kdm kdn khh khn wb ps ty ((hDX _ XW_addr).weaken (fun _ _ _ _ => trivial)) qpl qpg) gm_163 vf_X2_street ⟨Nat.le_of_ble_eq_true rfl, Nat.le_of_ble_eq_true rfl⟩ ⟨rfl, rfl⟩ hc (RPE.preV hK ((hE0.kept hS.2.1).narrow (fun r hr => inW_all (hDX _ XW_addr) r hr)) hPX (q0 := 0) (ci := 2) XW_g0 rfl) rfl hl.1 rfl (Nat.le_of_ble_eq_true rfl) dL_law_194 hS (inW_all (hDX _ XW_addr)) (fun r_1 u_1 H1 locs1 hpo_1 hP1 hk1 hS1 => ?_)
  have hPM := wkept hPM (fun r h1 h2 => hAP _ _ XW_addr MW_addr r h2 h1) hk1
  clear hk1
  have hS := hS1
  rcases hpo_1 with ⟨so1, er_1, eu_1⟩ | ⟨so1, er_1, eu_1⟩
  · subst eu_1
    have hPX : va_P D vwCl (XW cI a 0 (((pl + 1) / 3)) (st + 1) (nI 0) 0 0 0 (nI 0) ktd knd knh kbs pg (cpF (stK pg) kd ((pl + 1) / 3)) (cpF (stA pg) ag ((pl + 1) / 3)) pa (fun _ => nI 0) dm dn hh hn kag kpa kbo kdm kdn khh khn wb ps ty) H1 := hP1
    clear hP1
    refine lv_aload_n hx hb dL_law_197 rfl (lv_at hl 1 rfl) ?_
    refine wrVi (As := []) (rest := [.int r_1]) hx hb hml hown hg (c_X3_street l D cI cB aS b st n td nd nh pl bs kd ag bo2 pa dm dn hh hn pg sv sd ik2 ks ktd knd knh kbs kag kbo2 kpa kdm kdn khh khn hf ((hDM _ MW_addr).weaken (fun _ _ _ _ => trivial)) qpl qpg) gm_489 vf_X3_street ⟨Nat.le_of_ble_eq_true rfl, Nat.le_of_ble_eq_true rfl⟩ ⟨rfl, rfl⟩ hc (RP.preV hK hPM (q0 := 0) (ci := 3) MW_g0 rfl) rfl hl.1 rfl (Nat.le_of_ble_eq_true rfl) dL_law_198 hS (inW_all (hDM _ MW_addr)) (fun r_2 u_2 H2 locs2 hpo_2 hP2 hk2 hS2 => ?_)
    have hPX := wkept hPX (fun r h1 h2 => hAP _ _ XW_addr MW_addr r h1 h2) hk2
    clear hk2
    have hS := hS2
    rcases hpo_2 with ⟨so2, er_2, eu_2⟩ | ⟨so2, er_2, eu_2⟩
    · subst eu_2
      have hPM : va_P D vwCl (MW cI cB b (st + 1) (((pl + 1) / 3)) 0 0 0 0 (nI 0) (cpF (stK pg) kd ((pl + 1) / 3)) (cpF (stA pg) ag ((pl + 1) / 3)) (cpF (fun _ => nI 0) bo2 ((pl + 1) / 3)) pa dm dn hh hn pg sv sd ik2 ks ktd knd knh kbs kag kbo2 kpa kdm kdn khh khn hf) H2 := hP2
      refine lv_icmp_eq (tgt := 687) hx hb dL_law_201 (by decide) (fun _ => ?_) (fun h9 => absurd (er_1.trans er_2.symm) h9)
      exact kk _ _ (lJ.of hPX hPM hS (by omega) (hI.street so1))
    · exact absurd so1 so2
  · subst eu_1
    have hPX : va_P D vwCl (XW cI a pl n st ik td nd nh bs ktd knd knh kbs pg kd ag pa bo dm dn hh hn kag kpa kbo kdm kdn khh khn wb ps ty) H1 := hP1
    clear hP1
    refine lv_aload_n hx hb dL_law_197 rfl (lv_at hl 1 rfl) ?_
    refine wrVi (As := []) (rest := [.int r_1]) hx hb hml hown hg (c_X3_street l D cI cB aS b st n td nd nh pl bs kd ag bo2 pa dm dn hh hn pg sv sd ik2 ks ktd knd knh kbs kag kbo2 kpa kdm kdn khh khn hf ((hDM _ MW_addr).weaken (fun _ _ _ _ => trivial)) qpl qpg) gm_489 vf_X3_street ⟨Nat.le_of_ble_eq_true rfl, Nat.le_of_ble_eq_true rfl⟩ ⟨rfl, rfl⟩ hc (RP.preV hK hPM (q0 := 0) (ci := 3) MW_g0 rfl) rfl hl.1 rfl (Nat.le_of_ble_eq_true rfl) dL_law_198 hS (inW_all (hDM _ MW_addr)) (fun r_2 u_2 H2 locs2 hpo_2 hP2 hk2 hS2 => ?_)
    have hPX := wkept hPX (fun r h1 h2 => hAP _ _ XW_addr MW_addr r h1 h2) hk2
    clear hk2
    have hS := hS2
    rcases hpo_2 with ⟨so2, er_2, eu_2⟩ | ⟨so2, er_2, eu_2⟩
    · exact absurd so2 so1
    · subst eu_2
      have hPM : va_P D vwCl (MW cI cB b st n td nd nh pl bs kd ag bo2 pa dm dn hh hn pg sv sd ik2 ks ktd knd knh kbs kag kbo2 kpa kdm kdn khh khn hf) H2 := hP2
      refine lv_icmp_eq (tgt := 687) hx hb dL_law_201 (by decide) (fun _ => ?_) (fun h9 => absurd (er_1.trans er_2.symm) h9)
      exact kk _ _ (lJ.of hPX hPM hS (by omega) hI)
theorem vf_X3_about : vfacts RX3 yX3_about cX3_about 3 (some .int) 2 := ⟨⟨rfl, by decide +kernel, by decide +kernel, by decide +kernel⟩, gm_494, gm_495, gm_5, gm_496⟩
set_option maxRecDepth 100000 in
set_option maxHeartbeats 4000000 in
theorem law_about {p : Program} {l : Launch} {e : Env} {s : State} {m : MethodId} {args : Array Value} {below : List Frame} {meth : Method} {c : Code} {D : va_G} {cI cB : ClassId} {aS aV : Nat} {a b : Nat → Nat} {q L : Nat} {xs : Nat → Int32} {cells slots : Nat} {Q : State → Prop} (C : lC p s m c args D cI cB aS aV a b q L xs) (hc : cells ≤ room_1.cells ∧ slots ≤ room_1.slots) {i : Nat} (hi : i + 4 ≤ L) {H : Heap} {locs : List Loc} (J : lJ D cI cB a b s i H locs) {ls : Array Slot} (hl : lv_has ls 4 [(3, .int (nI i)), (2, .ref (b 0)), (1, .ref (a 0)), (0, .ref q)]) (kk : ∀ (H : Heap) (locs : List Loc), lJ D cI cB a b s (i + 1) H locs → W p l e room_1 s m args below meth c H locs cells slots Q (F0 m 687 ls [])) : W p l e room_1 s m args below meth c H locs cells slots Q (F0 m 206 ls []) := by
  obtain ⟨hx, hb, hml, hown, hg, hK, hE0, hX, hbl, hL, hDX, hDM, hAP⟩ := C
  obtain ⟨pl, n, st, ik, td, nd, nh, bs, ktd, knd, knh, kbs, pg, kd, ag, pa, bo, dm, dn, hh, hn, kag, kpa, kbo, kdm, kdn, khh, khn, wb, ps, ty, bo2, kbo2, sv, sd, ik2, ks, hf, hst, hI, hPX, hPM, hS⟩ := J
  have hbA : ¬ (fun r : Nat => s.heap.size ≤ r) q := Nat.not_le.mpr hbl
  obtain ⟨hn6, qpl, qpg, hks, ⟨qt, qnd, qnh, qhh, qok⟩, hbo, hik, hkp⟩ := id hI
  refine lv_aload_n hx hb dL_law_206 rfl (lv_at hl 2 rfl) ?_
  refine lv_aload_n hx hb dL_law_207 rfl (lv_at hl 3 rfl) ?_
  refine lv_iload_n hx hb dL_law_208 rfl (lv_at hl 0 rfl) ?_
  refine lv_iconst (v := nI 1) hx hb dL_law_209 (by decide) ?_
  refine nv_iadd hx hb dL_law_210 ?_
  refine va_sld hx hb hX hbl hbA hS (pk_in (i + 1) L (by omega)) dL_law_211 ?_
  refine lv_aload_n hx hb dL_law_212 rfl (lv_at hl 3 rfl) ?_
  refine lv_iload_n hx hb dL_law_213 rfl (lv_at hl 0 rfl) ?_
  refine lv_iconst (v := nI 2) hx hb dL_law_214 (by decide) ?_
  refine nv_iadd hx hb dL_law_215 ?_
  refine va_sld hx hb hX hbl hbA hS (pk_in (i + 2) L (by omega)) dL_law_216 ?_
  refine rdV (As := [.int (xs (nI (i + 1)).toNatClampNeg), .int (xs (nI (i + 2)).toNatClampNeg)]) (rest := []) hx hb hml hown hg (c_X2_about l D cI cB aS a pl n st ik td nd nh bs ktd knd knh kbs pg kd ag pa bo dm dn hh hn kag kpa kbo kdm kdn khh khn wb ps ty (xs (nI (i + 1)).toNatClampNeg) (xs (nI (i + 2)).toNatClampNeg) hn6 qnd qt) gm_179 vf_X2_about ⟨Nat.le_of_ble_eq_true rfl, Nat.le_of_ble_eq_true rfl⟩ ⟨rfl, rfl⟩ hc (RP.preV hK hPX (q0 := 0) (ci := 2) XW_g0 rfl) rfl hl.1 rfl (Nat.le_of_ble_eq_true rfl) dL_law_217 ?_
  refine lv_aload_n hx hb dL_law_220 rfl (lv_at hl 1 rfl) ?_
  refine lv_aload_n hx hb dL_law_221 rfl (lv_at hl 3 rfl) ?_
  refine lv_iload_n hx hb dL_law_222 rfl (lv_at hl 0 rfl) ?_
  refine lv_iconst (v := nI 1) hx hb dL_law_223 (by decide) ?_
  refine nv_iadd hx hb dL_law_224 ?_
  refine va_sld hx hb hX hbl hbA hS (pk_in (i + 1) L (by omega)) dL_law_225 ?_
  refine lv_aload_n hx hb dL_law_226 rfl (lv_at hl 3 rfl) ?_
  refine lv_iload_n hx hb dL_law_227 rfl (lv_at hl 0 rfl) ?_
  refine lv_iconst (v := nI 2) hx hb dL_law_228 (by decide) ?_
  refine nv_iadd hx hb dL_law_229 ?_
  refine va_sld hx hb hX hbl hbA hS (pk_in (i + 2) L (by omega)) dL_law_230 ?_
  refine rdV (As := [.int (xs (nI (i + 1)).toNatClampNeg), .int (xs (nI (i + 2)).toNatClampNeg)]) (rest := [.int _]) hx hb hml hown hg (c_X3_about l D cI cB aS b st n td nd nh pl bs kd ag bo2 pa dm dn hh hn pg sv sd ik2 ks ktd knd knh kbs kag kbo2 kpa kdm kdn khh khn hf (xs (nI (i + 1)).toNatClampNeg) (xs (nI (i + 2)).toNatClampNeg) hn6 qnd qt) gm_493 vf_X3_about ⟨Nat.le_of_ble_eq_true rfl, Nat.le_of_ble_eq_true rfl⟩ ⟨rfl, rfl⟩ hc (RP.preV hK hPM (q0 := 0) (ci := 3) MW_g0 rfl) rfl hl.1 rfl (Nat.le_of_ble_eq_true rfl) dL_law_231 ?_
  refine lv_icmp_eq (tgt := 687) hx hb dL_law_234 (by decide) (fun _ => ?_) (fun h9 => absurd (abt_c hn6 hbo) h9)
  exact kk _ _ (lJ.of hPX hPM hS (by omega) hI)
theorem vf_X2_as : vfacts RX2 yX2_as cX2_as 3 (some .int) 2 := ⟨⟨rfl, by decide +kernel, by decide +kernel, by decide +kernel⟩, gm_211, gm_212, gm_2, gm_213⟩
theorem vf_X3_as : vfacts RX3 yX3_as cX3_as 4 (some .int) 2 := ⟨⟨rfl, by decide +kernel, by decide +kernel, by decide +kernel⟩, gm_522, gm_523, gm_5, gm_524⟩
set_option maxRecDepth 100000 in
set_option maxHeartbeats 4000000 in
theorem law_as {p : Program} {l : Launch} {e : Env} {s : State} {m : MethodId} {args : Array Value} {below : List Frame} {meth : Method} {c : Code} {D : va_G} {cI cB : ClassId} {aS aV : Nat} {a b : Nat → Nat} {q L : Nat} {xs : Nat → Int32} {cells slots : Nat} {Q : State → Prop} (C : lC p s m c args D cI cB aS aV a b q L xs) (hc : cells ≤ room_1.cells ∧ slots ≤ room_1.slots) {i : Nat} (hi : i + 4 ≤ L) {H : Heap} {locs : List Loc} (J : lJ D cI cB a b s i H locs) {ls : Array Slot} (hl : lv_has ls 4 [(3, .int (nI i)), (2, .ref (b 0)), (1, .ref (a 0)), (0, .ref q)]) (kk : ∀ (H : Heap) (locs : List Loc), lJ D cI cB a b s (i + 1) H locs → W p l e room_1 s m args below meth c H locs cells slots Q (F0 m 687 ls [])) : W p l e room_1 s m args below meth c H locs cells slots Q (F0 m 239 ls []) := by
  obtain ⟨hx, hb, hml, hown, hg, hK, hE0, hX, hbl, hL, hDX, hDM, hAP⟩ := C
  obtain ⟨pl, n, st, ik, td, nd, nh, bs, ktd, knd, knh, kbs, pg, kd, ag, pa, bo, dm, dn, hh, hn, kag, kpa, kbo, kdm, kdn, khh, khn, wb, ps, ty, bo2, kbo2, sv, sd, ik2, ks, hf, hst, hI, hPX, hPM, hS⟩ := J
  have hbA : ¬ (fun r : Nat => s.heap.size ≤ r) q := Nat.not_le.mpr hbl
  obtain ⟨hn6, qpl, qpg, hks, ⟨qt, qnd, qnh, qhh, qok⟩, hbo, hik, hkp⟩ := id hI
  refine lv_aload_n hx hb dL_law_239 rfl (lv_at hl 2 rfl) ?_
  refine lv_aload_n hx hb dL_law_240 rfl (lv_at hl 3 rfl) ?_
  refine lv_iload_n hx hb dL_law_241 rfl (lv_at hl 0 rfl) ?_
  refine lv_iconst (v := nI 1) hx hb dL_law_242 (by decide) ?_
  refine nv_iadd hx hb dL_law_243 ?_
  refine va_sld hx hb hX hbl hbA hS (pk_in (i + 1) L (by omega)) dL_law_244 ?_
  refine lv_aload_n hx hb dL_law_245 rfl (lv_at hl 3 rfl) ?_
  refine lv_iload_n hx hb dL_law_246 rfl (lv_at hl 0 rfl) ?_
  refine lv_iconst (v := nI 2) hx hb dL_law_247 (by decide) ?_
  refine nv_iadd hx hb dL_law_248 ?_
  refine va_sld hx hb hX hbl hbA hS (pk_in (i + 2) L (by omega)) dL_law_249 ?_
  refine rdV (As := [.int (xs (nI (i + 1)).toNatClampNeg), .int (xs (nI (i + 2)).toNatClampNeg)]) (rest := []) hx hb hml hown hg (c_X2_as l D cI cB aS a pl n st ik td nd nh bs ktd knd knh kbs pg kd ag pa bo dm dn hh hn kag kpa kbo kdm kdn khh khn wb ps ty (xs (nI (i + 1)).toNatClampNeg) (xs (nI (i + 2)).toNatClampNeg) hn6) gm_210 vf_X2_as ⟨Nat.le_of_ble_eq_true rfl, Nat.le_of_ble_eq_true rfl⟩ ⟨rfl, rfl⟩ hc (RP.preV hK hPX (q0 := 0) (ci := 2) XW_g0 rfl) rfl hl.1 rfl (Nat.le_of_ble_eq_true rfl) dL_law_250 ?_
  refine lv_aload_n hx hb dL_law_253 rfl (lv_at hl 1 rfl) ?_
  refine lv_aload_n hx hb dL_law_254 rfl (lv_at hl 3 rfl) ?_
  refine lv_iload_n hx hb dL_law_255 rfl (lv_at hl 0 rfl) ?_
  refine lv_iconst (v := nI 1) hx hb dL_law_256 (by decide) ?_
  refine nv_iadd hx hb dL_law_257 ?_
  refine va_sld hx hb hX hbl hbA hS (pk_in (i + 1) L (by omega)) dL_law_258 ?_
  refine lv_aload_n hx hb dL_law_259 rfl (lv_at hl 3 rfl) ?_
  refine lv_iload_n hx hb dL_law_260 rfl (lv_at hl 0 rfl) ?_
  refine lv_iconst (v := nI 2) hx hb dL_law_261 (by decide) ?_
  refine nv_iadd hx hb dL_law_262 ?_
  refine va_sld hx hb hX hbl hbA hS (pk_in (i + 2) L (by omega)) dL_law_263 ?_
  refine rdV (As := [.int (xs (nI (i + 1)).toNatClampNeg), .int (xs (nI (i + 2)).toNatClampNeg)]) (rest := [.int _]) hx hb hml hown hg (c_X3_as l D cI cB aS b st n td nd nh pl bs kd ag bo2 pa dm dn hh hn pg sv sd ik2 ks ktd knd knh kbs kag kbo2 kpa kdm kdn khh khn hf (xs (nI (i + 1)).toNatClampNeg) (xs (nI (i + 2)).toNatClampNeg) hn6) gm_521 vf_X3_as ⟨Nat.le_of_ble_eq_true rfl, Nat.le_of_ble_eq_true rfl⟩ ⟨rfl, rfl⟩ hc (RP.preV hK hPM (q0 := 0) (ci := 3) MW_g0 rfl) rfl hl.1 rfl (Nat.le_of_ble_eq_true rfl) dL_law_264 ?_
  refine lv_icmp_eq (tgt := 687) hx hb dL_law_267 (by decide) (fun _ => ?_) (fun h9 => absurd (rfl) h9)
  exact kk _ _ (lJ.of hPX hPM hS (by omega) hI)
theorem vf_X2_birth : vfacts RX2 yX2_birth cX2_birth 2 (some .int) 1 := ⟨⟨rfl, by decide +kernel, by decide +kernel, by decide +kernel⟩, gm_218, gm_219, gm_2, gm_220⟩
theorem vf_X3_birth : vfacts RX3 yX3_birth cX3_birth 2 (some .int) 1 := ⟨⟨rfl, by decide +kernel, by decide +kernel, by decide +kernel⟩, gm_526, gm_527, gm_5, gm_528⟩
set_option maxRecDepth 100000 in
set_option maxHeartbeats 4000000 in
theorem law_birth {p : Program} {l : Launch} {e : Env} {s : State} {m : MethodId} {args : Array Value} {below : List Frame} {meth : Method} {c : Code} {D : va_G} {cI cB : ClassId} {aS aV : Nat} {a b : Nat → Nat} {q L : Nat} {xs : Nat → Int32} {cells slots : Nat} {Q : State → Prop} (C : lC p s m c args D cI cB aS aV a b q L xs) (hc : cells ≤ room_1.cells ∧ slots ≤ room_1.slots) {i : Nat} (hi : i + 4 ≤ L) {H : Heap} {locs : List Loc} (J : lJ D cI cB a b s i H locs) {ls : Array Slot} (hl : lv_has ls 4 [(3, .int (nI i)), (2, .ref (b 0)), (1, .ref (a 0)), (0, .ref q)]) (kk : ∀ (H : Heap) (locs : List Loc), lJ D cI cB a b s (i + 1) H locs → W p l e room_1 s m args below meth c H locs cells slots Q (F0 m 687 ls [])) : W p l e room_1 s m args below meth c H locs cells slots Q (F0 m 272 ls []) := by
  obtain ⟨hx, hb, hml, hown, hg, hK, hE0, hX, hbl, hL, hDX, hDM, hAP⟩ := C
  obtain ⟨pl, n, st, ik, td, nd, nh, bs, ktd, knd, knh, kbs, pg, kd, ag, pa, bo, dm, dn, hh, hn, kag, kpa, kbo, kdm, kdn, khh, khn, wb, ps, ty, bo2, kbo2, sv, sd, ik2, ks, hf, hst, hI, hPX, hPM, hS⟩ := J
  have hbA : ¬ (fun r : Nat => s.heap.size ≤ r) q := Nat.not_le.mpr hbl
  obtain ⟨hn6, qpl, qpg, hks, ⟨qt, qnd, qnh, qhh, qok⟩, hbo, hik, hkp⟩ := id hI
  refine lv_aload_n hx hb dL_law_272 rfl (lv_at hl 2 rfl) ?_
  refine lv_aload_n hx hb dL_law_273 rfl (lv_at hl 3 rfl) ?_
  refine lv_iload_n hx hb dL_law_274 rfl (lv_at hl 0 rfl) ?_
  refine lv_iconst (v := nI 1) hx hb dL_law_275 (by decide) ?_
  refine nv_iadd hx hb dL_law_276 ?_
  refine va_sld hx hb hX hbl hbA hS (pk_in (i + 1) L (by omega)) dL_law_277 ?_
  refine wrVi (As := [.int (xs (nI (i + 1)).toNatClampNeg)]) (rest := []) hx hb hml hown hg (c_X2_birth l D cI cB aS a pl n st ik td nd nh bs ktd knd knh kbs pg kd ag pa bo dm dn hh hn kag kpa kbo kdm kdn khh khn wb ps ty (xs (nI (i + 1)).toNatClampNeg) ((hDX _ XW_addr).weaken (fun _ _ _ _ => trivial)) hn6) gm_217 vf_X2_birth ⟨Nat.le_of_ble_eq_true rfl, Nat.le_of_ble_eq_true rfl⟩ ⟨rfl, rfl⟩ hc (RP.preV hK hPX (q0 := 0) (ci := 2) XW_g0 rfl) rfl hl.1 rfl (Nat.le_of_ble_eq_true rfl) dL_law_278 hS (inW_all (hDX _ XW_addr)) (fun r_1 u_1 H1 locs1 hpo_1 hP1 hk1 hS1 => ?_)
  have hPM := wkept hPM (fun r h1 h2 => hAP _ _ XW_addr MW_addr r h2 h1) hk1
  clear hk1
  have hS := hS1
  have er_1 : r_1 = (birF n kd ag bo bs (xs (nI (i + 1)).toNatClampNeg)).1 := congrArg Prod.fst hpo_1
  have eu_1 : u_1 = (birF n kd ag bo bs (xs (nI (i + 1)).toNatClampNeg)).2 := congrArg Prod.snd hpo_1
  clear hpo_1
  subst eu_1
  have hPX : va_P D vwCl (XW cI a pl n st ik td nd nh ((birF n kd ag bo bs (xs (nI (i + 1)).toNatClampNeg)).2.2.2) ktd knd knh kbs pg kd ((birF n kd ag bo bs (xs (nI (i + 1)).toNatClampNeg)).2.1) pa ((birF n kd ag bo bs (xs (nI (i + 1)).toNatClampNeg)).2.2.1) dm dn hh hn kag kpa kbo kdm kdn khh khn wb ps ty) H1 := hP1
  clear hP1
  refine lv_aload_n hx hb dL_law_281 rfl (lv_at hl 1 rfl) ?_
  refine lv_aload_n hx hb dL_law_282 rfl (lv_at hl 3 rfl) ?_
  refine lv_iload_n hx hb dL_law_283 rfl (lv_at hl 0 rfl) ?_
  refine lv_iconst (v := nI 1) hx hb dL_law_284 (by decide) ?_
  refine nv_iadd hx hb dL_law_285 ?_
  refine va_sld hx hb hX hbl hbA hS (pk_in (i + 1) L (by omega)) dL_law_286 ?_
  refine wrVi (As := [.int (xs (nI (i + 1)).toNatClampNeg)]) (rest := [.int r_1]) hx hb hml hown hg (c_X3_birth l D cI cB aS b st n td nd nh pl bs kd ag bo2 pa dm dn hh hn pg sv sd ik2 ks ktd knd knh kbs kag kbo2 kpa kdm kdn khh khn hf (xs (nI (i + 1)).toNatClampNeg) ((hDM _ MW_addr).weaken (fun _ _ _ _ => trivial)) hn6) gm_525 vf_X3_birth ⟨Nat.le_of_ble_eq_true rfl, Nat.le_of_ble_eq_true rfl⟩ ⟨rfl, rfl⟩ hc (RP.preV hK hPM (q0 := 0) (ci := 3) MW_g0 rfl) rfl hl.1 rfl (Nat.le_of_ble_eq_true rfl) dL_law_287 hS (inW_all (hDM _ MW_addr)) (fun r_2 u_2 H2 locs2 hpo_2 hP2 hk2 hS2 => ?_)
  have hPX := wkept hPX (fun r h1 h2 => hAP _ _ XW_addr MW_addr r h1 h2) hk2
  clear hk2
  have hS := hS2
  have er_2 : r_2 = (birF n kd ag bo2 bs (xs (nI (i + 1)).toNatClampNeg)).1 := congrArg Prod.fst hpo_2
  have eu_2 : u_2 = (birF n kd ag bo2 bs (xs (nI (i + 1)).toNatClampNeg)).2 := congrArg Prod.snd hpo_2
  clear hpo_2
  subst eu_2
  have hPM : va_P D vwCl (MW cI cB b st n td nd nh pl ((birF n kd ag bo2 bs (xs (nI (i + 1)).toNatClampNeg)).2.2.2) kd ((birF n kd ag bo2 bs (xs (nI (i + 1)).toNatClampNeg)).2.1) ((birF n kd ag bo2 bs (xs (nI (i + 1)).toNatClampNeg)).2.2.1) pa dm dn hh hn pg sv sd ik2 ks ktd knd knh kbs kag kbo2 kpa kdm kdn khh khn hf) H2 := hP2
  obtain ⟨b1, b2, b3, b4, b5⟩ := bir_c (td := td) (pa := pa) (kd := kd) (bs := bs) (x := (xs (nI (i + 1)).toNatClampNeg)) hbo qok
  rw [← b2, ← b3] at hPM
  refine lv_icmp_eq (tgt := 687) hx hb dL_law_290 (by decide) (fun _ => ?_) (fun h9 => absurd (er_1.trans (b1.trans er_2.symm)) h9)
  exact kk _ _ (lJ.of hPX hPM hS (by omega) (hI.mom ⟨qt, qnd, qnh, qhh, b5⟩ b4))
theorem vf_X2_day : vfacts RX2 yX2_day cX2_day 2 (some .int) 0 := ⟨⟨rfl, by decide +kernel, by decide +kernel, by decide +kernel⟩, gm_234, gm_235, gm_2, gm_236⟩
theorem vf_X3_day : vfacts RX3 yX3_day cX3_day 2 (some .int) 0 := ⟨⟨rfl, by decide +kernel, by decide +kernel, by decide +kernel⟩, gm_539, gm_540, gm_5, gm_541⟩
set_option maxRecDepth 100000 in
set_option maxHeartbeats 4000000 in
theorem law_day {p : Program} {l : Launch} {e : Env} {s : State} {m : MethodId} {args : Array Value} {below : List Frame} {meth : Method} {c : Code} {D : va_G} {cI cB : ClassId} {aS aV : Nat} {a b : Nat → Nat} {q L : Nat} {xs : Nat → Int32} {cells slots : Nat} {Q : State → Prop} (C : lC p s m c args D cI cB aS aV a b q L xs) (hc : cells ≤ room_1.cells ∧ slots ≤ room_1.slots) {i : Nat} (hi : i + 4 ≤ L) {H : Heap} {locs : List Loc} (J : lJ D cI cB a b s i H locs) {ls : Array Slot} (hl : lv_has ls 4 [(3, .int (nI i)), (2, .ref (b 0)), (1, .ref (a 0)), (0, .ref q)]) (kk : ∀ (H : Heap) (locs : List Loc), lJ D cI cB a b s (i + 1) H locs → W p l e room_1 s m args below meth c H locs cells slots Q (F0 m 687 ls [])) : W p l e room_1 s m args below meth c H locs cells slots Q (F0 m 295 ls []) := by
  obtain ⟨hx, hb, hml, hown, hg, hK, hE0, hX, hbl, hL, hDX, hDM, hAP⟩ := C
  obtain ⟨pl, n, st, ik, td, nd, nh, bs, ktd, knd, knh, kbs, pg, kd, ag, pa, bo, dm, dn, hh, hn, kag, kpa, kbo, kdm, kdn, khh, khn, wb, ps, ty, bo2, kbo2, sv, sd, ik2, ks, hf, hst, hI, hPX, hPM, hS⟩ := J
  have hbA : ¬ (fun r : Nat => s.heap.size ≤ r) q := Nat.not_le.mpr hbl
  obtain ⟨hn6, qpl, qpg, hks, ⟨qt, qnd, qnh, qhh, qok⟩, hbo, hik, hkp⟩ := id hI
  refine lv_aload_n hx hb dL_law_295 rfl (lv_at hl 2 rfl) ?_
  refine wrVi (As := []) (rest := []) hx hb hml hown hg (c_X2_day l D cI cB aS a pl n st ik td nd nh bs ktd knd knh kbs pg kd ag pa bo dm dn hh hn kag kpa kbo kdm kdn khh khn wb ps ty ((hDX _ XW_addr).weaken (fun _ _ _ _ => trivial)) hn6 qt) gm_233 vf_X2_day ⟨Nat.le_of_ble_eq_true rfl, Nat.le_of_ble_eq_true rfl⟩ ⟨rfl, rfl⟩ hc (RP.preV hK hPX (q0 := 0) (ci := 2) XW_g0 rfl) rfl hl.1 rfl (Nat.le_of_ble_eq_true rfl) dL_law_296 hS (inW_all (hDX _ XW_addr)) (fun r_1 u_1 H1 locs1 hpo_1 hP1 hk1 hS1 => ?_)
  have hPM := wkept hPM (fun r h1 h2 => hAP _ _ XW_addr MW_addr r h2 h1) hk1
  clear hk1
  have hS := hS1
  have er_1 : r_1 = (dayF n td kd ag pa).1 := congrArg Prod.fst hpo_1
  have eu_1 : u_1 = (dayF n td kd ag pa).2 := congrArg Prod.snd hpo_1
  clear hpo_1
  subst eu_1
  have hPX : va_P D vwCl (XW cI a pl n st ik ((dayF n td kd ag pa).2.2.2) nd nh bs ktd knd knh kbs pg kd ((dayF n td kd ag pa).2.1) ((dayF n td kd ag pa).2.2.1) bo dm dn hh hn kag kpa kbo kdm kdn khh khn wb ps ty) H1 := hP1
  clear hP1
  refine lv_aload_n hx hb dL_law_299 rfl (lv_at hl 1 rfl) ?_
  refine wrVi (As := []) (rest := [.int r_1]) hx hb hml hown hg (c_X3_day l D cI cB aS b st n td nd nh pl bs kd ag bo2 pa dm dn hh hn pg sv sd ik2 ks ktd knd knh kbs kag kbo2 kpa kdm kdn khh khn hf ((hDM _ MW_addr).weaken (fun _ _ _ _ => trivial)) hn6 qt) gm_538 vf_X3_day ⟨Nat.le_of_ble_eq_true rfl, Nat.le_of_ble_eq_true rfl⟩ ⟨rfl, rfl⟩ hc (RP.preV hK hPM (q0 := 0) (ci := 3) MW_g0 rfl) rfl hl.1 rfl (Nat.le_of_ble_eq_true rfl) dL_law_300 hS (inW_all (hDM _ MW_addr)) (fun r_2 u_2 H2 locs2 hpo_2 hP2 hk2 hS2 => ?_)
  have hPX := wkept hPX (fun r h1 h2 => hAP _ _ XW_addr MW_addr r h1 h2) hk2
  clear hk2
  have hS := hS2
  have er_2 : r_2 = (dayF n td kd ag pa).1 := congrArg Prod.fst hpo_2
  have eu_2 : u_2 = (dayF n td kd ag pa).2 := congrArg Prod.snd hpo_2
  clear hpo_2
  subst eu_2
  have hPM : va_P D vwCl (MW cI cB b st n ((dayF n td kd ag pa).2.2.2) nd nh pl bs kd ((dayF n td kd ag pa).2.1) bo2 ((dayF n td kd ag pa).2.2.1) dm dn hh hn pg sv sd ik2 ks ktd knd knh kbs kag kbo2 kpa kdm kdn khh khn hf) H2 := hP2
  refine lv_icmp_eq (tgt := 687) hx hb dL_law_303 (by decide) (fun _ => ?_) (fun h9 => absurd (er_1.trans er_2.symm) h9)
  exact kk _ _ (lJ.of hPX hPM hS (by omega) (hI.mom ⟨(day_ok hn6 qok qt).1, qnd, qnh, qhh, (day_ok hn6 qok qt).2⟩ hbo))
theorem vf_X2_then : vfacts RX2 yX2_then cX2_then 3 (some .int) 2 := ⟨⟨rfl, by decide +kernel, by decide +kernel, by decide +kernel⟩, gm_244, gm_245, gm_2, gm_246⟩
theorem vf_X3_then : vfacts RX3 yX3_then cX3_then 3 (some .int) 2 := ⟨⟨rfl, by decide +kernel, by decide +kernel, by decide +kernel⟩, gm_546, gm_547, gm_5, gm_548⟩
set_option maxRecDepth 100000 in
set_option maxHeartbeats 4000000 in
theorem law_then {p : Program} {l : Launch} {e : Env} {s : State} {m : MethodId} {args : Array Value} {below : List Frame} {meth : Method} {c : Code} {D : va_G} {cI cB : ClassId} {aS aV : Nat} {a b : Nat → Nat} {q L : Nat} {xs : Nat → Int32} {cells slots : Nat} {Q : State → Prop} (C : lC p s m c args D cI cB aS aV a b q L xs) (hc : cells ≤ room_1.cells ∧ slots ≤ room_1.slots) {i : Nat} (hi : i + 4 ≤ L) {H : Heap} {locs : List Loc} (J : lJ D cI cB a b s i H locs) {ls : Array Slot} (hl : lv_has ls 4 [(3, .int (nI i)), (2, .ref (b 0)), (1, .ref (a 0)), (0, .ref q)]) (kk : ∀ (H : Heap) (locs : List Loc), lJ D cI cB a b s (i + 1) H locs → W p l e room_1 s m args below meth c H locs cells slots Q (F0 m 687 ls [])) : W p l e room_1 s m args below meth c H locs cells slots Q (F0 m 308 ls []) := by
  obtain ⟨hx, hb, hml, hown, hg, hK, hE0, hX, hbl, hL, hDX, hDM, hAP⟩ := C
  obtain ⟨pl, n, st, ik, td, nd, nh, bs, ktd, knd, knh, kbs, pg, kd, ag, pa, bo, dm, dn, hh, hn, kag, kpa, kbo, kdm, kdn, khh, khn, wb, ps, ty, bo2, kbo2, sv, sd, ik2, ks, hf, hst, hI, hPX, hPM, hS⟩ := J
  have hbA : ¬ (fun r : Nat => s.heap.size ≤ r) q := Nat.not_le.mpr hbl
  obtain ⟨hn6, qpl, qpg, hks, ⟨qt, qnd, qnh, qhh, qok⟩, hbo, hik, hkp⟩ := id hI
  refine lv_aload_n hx hb dL_law_308 rfl (lv_at hl 2 rfl) ?_
  refine lv_aload_n hx hb dL_law_309 rfl (lv_at hl 3 rfl) ?_
  refine lv_iload_n hx hb dL_law_310 rfl (lv_at hl 0 rfl) ?_
  refine lv_iconst (v := nI 1) hx hb dL_law_311 (by decide) ?_
  refine nv_iadd hx hb dL_law_312 ?_
  refine va_sld hx hb hX hbl hbA hS (pk_in (i + 1) L (by omega)) dL_law_313 ?_
  refine lv_aload_n hx hb dL_law_314 rfl (lv_at hl 3 rfl) ?_
  refine lv_iload_n hx hb dL_law_315 rfl (lv_at hl 0 rfl) ?_
  refine lv_iconst (v := nI 2) hx hb dL_law_316 (by decide) ?_
  refine nv_iadd hx hb dL_law_317 ?_
  refine va_sld hx hb hX hbl hbA hS (pk_in (i + 2) L (by omega)) dL_law_318 ?_
  refine rdV (As := [.int (xs (nI (i + 1)).toNatClampNeg), .int (xs (nI (i + 2)).toNatClampNeg)]) (rest := []) hx hb hml hown hg (c_X2_then l D cI cB aS a pl n st ik td nd nh bs ktd knd knh kbs pg kd ag pa bo dm dn hh hn kag kpa kbo kdm kdn khh khn wb ps ty (xs (nI (i + 1)).toNatClampNeg) (xs (nI (i + 2)).toNatClampNeg) hn6 qt) gm_243 vf_X2_then ⟨Nat.le_of_ble_eq_true rfl, Nat.le_of_ble_eq_true rfl⟩ ⟨rfl, rfl⟩ hc (RP.preV hK hPX (q0 := 0) (ci := 2) XW_g0 rfl) rfl hl.1 rfl (Nat.le_of_ble_eq_true rfl) dL_law_319 ?_
  refine lv_aload_n hx hb dL_law_322 rfl (lv_at hl 1 rfl) ?_
  refine lv_aload_n hx hb dL_law_323 rfl (lv_at hl 3 rfl) ?_
  refine lv_iload_n hx hb dL_law_324 rfl (lv_at hl 0 rfl) ?_
  refine lv_iconst (v := nI 1) hx hb dL_law_325 (by decide) ?_
  refine nv_iadd hx hb dL_law_326 ?_
  refine va_sld hx hb hX hbl hbA hS (pk_in (i + 1) L (by omega)) dL_law_327 ?_
  refine lv_aload_n hx hb dL_law_328 rfl (lv_at hl 3 rfl) ?_
  refine lv_iload_n hx hb dL_law_329 rfl (lv_at hl 0 rfl) ?_
  refine lv_iconst (v := nI 2) hx hb dL_law_330 (by decide) ?_
  refine nv_iadd hx hb dL_law_331 ?_
  refine va_sld hx hb hX hbl hbA hS (pk_in (i + 2) L (by omega)) dL_law_332 ?_
  refine rdV (As := [.int (xs (nI (i + 1)).toNatClampNeg), .int (xs (nI (i + 2)).toNatClampNeg)]) (rest := [.int _]) hx hb hml hown hg (c_X3_then l D cI cB aS b st n td nd nh pl bs kd ag bo2 pa dm dn hh hn pg sv sd ik2 ks ktd knd knh kbs kag kbo2 kpa kdm kdn khh khn hf (xs (nI (i + 1)).toNatClampNeg) (xs (nI (i + 2)).toNatClampNeg) hn6 qt) gm_545 vf_X3_then ⟨Nat.le_of_ble_eq_true rfl, Nat.le_of_ble_eq_true rfl⟩ ⟨rfl, rfl⟩ hc (RP.preV hK hPM (q0 := 0) (ci := 3) MW_g0 rfl) rfl hl.1 rfl (Nat.le_of_ble_eq_true rfl) dL_law_333 ?_
  refine lv_icmp_eq (tgt := 687) hx hb dL_law_336 (by decide) (fun _ => ?_) (fun h9 => absurd (rfl) h9)
  exact kk _ _ (lJ.of hPX hPM hS (by omega) hI)
theorem vf_X2_goesTo : vfacts RX2 yX2_goesTo cX2_goesTo 3 (some .int) 2 := ⟨⟨rfl, by decide +kernel, by decide +kernel, by decide +kernel⟩, gm_251, gm_252, gm_2, gm_253⟩
theorem vf_X3_goesTo : vfacts RX3 yX3_goesTo cX3_goesTo 3 (some .int) 2 := ⟨⟨rfl, by decide +kernel, by decide +kernel, by decide +kernel⟩, gm_553, gm_554, gm_5, gm_555⟩
set_option maxRecDepth 100000 in
set_option maxHeartbeats 4000000 in
theorem law_goesTo {p : Program} {l : Launch} {e : Env} {s : State} {m : MethodId} {args : Array Value} {below : List Frame} {meth : Method} {c : Code} {D : va_G} {cI cB : ClassId} {aS aV : Nat} {a b : Nat → Nat} {q L : Nat} {xs : Nat → Int32} {cells slots : Nat} {Q : State → Prop} (C : lC p s m c args D cI cB aS aV a b q L xs) (hc : cells ≤ room_1.cells ∧ slots ≤ room_1.slots) {i : Nat} (hi : i + 4 ≤ L) {H : Heap} {locs : List Loc} (J : lJ D cI cB a b s i H locs) {ls : Array Slot} (hl : lv_has ls 4 [(3, .int (nI i)), (2, .ref (b 0)), (1, .ref (a 0)), (0, .ref q)]) (kk : ∀ (H : Heap) (locs : List Loc), lJ D cI cB a b s (i + 1) H locs → W p l e room_1 s m args below meth c H locs cells slots Q (F0 m 687 ls [])) : W p l e room_1 s m args below meth c H locs cells slots Q (F0 m 341 ls []) := by
  obtain ⟨hx, hb, hml, hown, hg, hK, hE0, hX, hbl, hL, hDX, hDM, hAP⟩ := C
  obtain ⟨pl, n, st, ik, td, nd, nh, bs, ktd, knd, knh, kbs, pg, kd, ag, pa, bo, dm, dn, hh, hn, kag, kpa, kbo, kdm, kdn, khh, khn, wb, ps, ty, bo2, kbo2, sv, sd, ik2, ks, hf, hst, hI, hPX, hPM, hS⟩ := J
  have hbA : ¬ (fun r : Nat => s.heap.size ≤ r) q := Nat.not_le.mpr hbl
  obtain ⟨hn6, qpl, qpg, hks, ⟨qt, qnd, qnh, qhh, qok⟩, hbo, hik, hkp⟩ := id hI
  refine lv_aload_n hx hb dL_law_341 rfl (lv_at hl 2 rfl) ?_
  refine lv_aload_n hx hb dL_law_342 rfl (lv_at hl 3 rfl) ?_
  refine lv_iload_n hx hb dL_law_343 rfl (lv_at hl 0 rfl) ?_
  refine lv_iconst (v := nI 1) hx hb dL_law_344 (by decide) ?_
  refine nv_iadd hx hb dL_law_345 ?_
  refine va_sld hx hb hX hbl hbA hS (pk_in (i + 1) L (by omega)) dL_law_346 ?_
  refine lv_aload_n hx hb dL_law_347 rfl (lv_at hl 3 rfl) ?_
  refine lv_iload_n hx hb dL_law_348 rfl (lv_at hl 0 rfl) ?_
  refine lv_iconst (v := nI 2) hx hb dL_law_349 (by decide) ?_
  refine nv_iadd hx hb dL_law_350 ?_
  refine va_sld hx hb hX hbl hbA hS (pk_in (i + 2) L (by omega)) dL_law_351 ?_
  refine rdV (As := [.int (xs (nI (i + 1)).toNatClampNeg), .int (xs (nI (i + 2)).toNatClampNeg)]) (rest := []) hx hb hml hown hg (c_X2_goesTo l D cI cB aS a pl n st ik td nd nh bs ktd knd knh kbs pg kd ag pa bo dm dn hh hn kag kpa kbo kdm kdn khh khn wb ps ty (xs (nI (i + 1)).toNatClampNeg) (xs (nI (i + 2)).toNatClampNeg) hn6 qt) gm_250 vf_X2_goesTo ⟨Nat.le_of_ble_eq_true rfl, Nat.le_of_ble_eq_true rfl⟩ ⟨rfl, rfl⟩ hc (RP.preV hK hPX (q0 := 0) (ci := 2) XW_g0 rfl) rfl hl.1 rfl (Nat.le_of_ble_eq_true rfl) dL_law_352 ?_
  refine lv_aload_n hx hb dL_law_355 rfl (lv_at hl 1 rfl) ?_
  refine lv_aload_n hx hb dL_law_356 rfl (lv_at hl 3 rfl) ?_
  refine lv_iload_n hx hb dL_law_357 rfl (lv_at hl 0 rfl) ?_
  refine lv_iconst (v := nI 1) hx hb dL_law_358 (by decide) ?_
  refine nv_iadd hx hb dL_law_359 ?_
  refine va_sld hx hb hX hbl hbA hS (pk_in (i + 1) L (by omega)) dL_law_360 ?_
  refine lv_aload_n hx hb dL_law_361 rfl (lv_at hl 3 rfl) ?_
  refine lv_iload_n hx hb dL_law_362 rfl (lv_at hl 0 rfl) ?_
  refine lv_iconst (v := nI 2) hx hb dL_law_363 (by decide) ?_
  refine nv_iadd hx hb dL_law_364 ?_
  refine va_sld hx hb hX hbl hbA hS (pk_in (i + 2) L (by omega)) dL_law_365 ?_
  refine rdV (As := [.int (xs (nI (i + 1)).toNatClampNeg), .int (xs (nI (i + 2)).toNatClampNeg)]) (rest := [.int _]) hx hb hml hown hg (c_X3_goesTo l D cI cB aS b st n td nd nh pl bs kd ag bo2 pa dm dn hh hn pg sv sd ik2 ks ktd knd knh kbs kag kbo2 kpa kdm kdn khh khn hf (xs (nI (i + 1)).toNatClampNeg) (xs (nI (i + 2)).toNatClampNeg) hn6 qt) gm_552 vf_X3_goesTo ⟨Nat.le_of_ble_eq_true rfl, Nat.le_of_ble_eq_true rfl⟩ ⟨rfl, rfl⟩ hc (RP.preV hK hPM (q0 := 0) (ci := 3) MW_g0 rfl) rfl hl.1 rfl (Nat.le_of_ble_eq_true rfl) dL_law_366 ?_
  refine lv_icmp_eq (tgt := 687) hx hb dL_law_369 (by decide) (fun _ => ?_) (fun h9 => absurd (rfl) h9)
  exact kk _ _ (lJ.of hPX hPM hS (by omega) hI)
theorem vf_X3_walk : vfacts RX3 yX3_walk cX3_walk 1 (some .int) 0 := ⟨⟨rfl, by decide +kernel, by decide +kernel, by decide +kernel⟩, gm_557, gm_558, gm_5, gm_559⟩
set_option maxRecDepth 100000 in
set_option maxHeartbeats 4000000 in
theorem law_walk {p : Program} {l : Launch} {e : Env} {s : State} {m : MethodId} {args : Array Value} {below : List Frame} {meth : Method} {c : Code} {D : va_G} {cI cB : ClassId} {aS aV : Nat} {a b : Nat → Nat} {q L : Nat} {xs : Nat → Int32} {cells slots : Nat} {Q : State → Prop} (C : lC p s m c args D cI cB aS aV a b q L xs) (hc : cells ≤ room_1.cells ∧ slots ≤ room_1.slots) {i : Nat} (hi : i + 4 ≤ L) {H : Heap} {locs : List Loc} (J : lJ D cI cB a b s i H locs) {ls : Array Slot} (hl : lv_has ls 4 [(3, .int (nI i)), (2, .ref (b 0)), (1, .ref (a 0)), (0, .ref q)]) (kk : ∀ (H : Heap) (locs : List Loc), lJ D cI cB a b s (i + 1) H locs → W p l e room_1 s m args below meth c H locs cells slots Q (F0 m 687 ls [])) : W p l e room_1 s m args below meth c H locs cells slots Q (F0 m 374 ls []) := by
  obtain ⟨hx, hb, hml, hown, hg, hK, hE0, hX, hbl, hL, hDX, hDM, hAP⟩ := C
  obtain ⟨pl, n, st, ik, td, nd, nh, bs, ktd, knd, knh, kbs, pg, kd, ag, pa, bo, dm, dn, hh, hn, kag, kpa, kbo, kdm, kdn, khh, khn, wb, ps, ty, bo2, kbo2, sv, sd, ik2, ks, hf, hst, hI, hPX, hPM, hS⟩ := J
  have hbA : ¬ (fun r : Nat => s.heap.size ≤ r) q := Nat.not_le.mpr hbl
  obtain ⟨hn6, qpl, qpg, hks, ⟨qt, qnd, qnh, qhh, qok⟩, hbo, hik, hkp⟩ := id hI
  refine lv_aload_n hx hb dL_law_374 rfl (lv_at hl 2 rfl) ?_
  refine rdV (As := []) (rest := []) hx hb hml hown hg (c_X2_walk l D cI cB aS a pl n st ik td nd nh bs ktd knd knh kbs pg kd ag pa bo dm dn hh hn kag kpa kbo kdm kdn khh khn wb ps ty hn6) gm_254 vf_X2_walk ⟨Nat.le_of_ble_eq_true rfl, Nat.le_of_ble_eq_true rfl⟩ ⟨rfl, rfl⟩ hc (RP.preV hK hPX (q0 := 0) (ci := 2) XW_g0 rfl) rfl hl.1 rfl (Nat.le_of_ble_eq_true rfl) dL_law_375 ?_
  refine lv_aload_n hx hb dL_law_378 rfl (lv_at hl 1 rfl) ?_
  refine rdV (As := []) (rest := [.int _]) hx hb hml hown hg (c_X3_walk l D cI cB aS b st n td nd nh pl bs kd ag bo2 pa dm dn hh hn pg sv sd ik2 ks ktd knd knh kbs kag kbo2 kpa kdm kdn khh khn hf hn6) gm_556 vf_X3_walk ⟨Nat.le_of_ble_eq_true rfl, Nat.le_of_ble_eq_true rfl⟩ ⟨rfl, rfl⟩ hc (RP.preV hK hPM (q0 := 0) (ci := 3) MW_g0 rfl) rfl hl.1 rfl (Nat.le_of_ble_eq_true rfl) dL_law_379 ?_
  refine lv_icmp_eq (tgt := 687) hx hb dL_law_382 (by decide) (fun _ => ?_) (fun h9 => absurd (rfl) h9)
  exact kk _ _ (lJ.of hPX hPM hS (by omega) hI)
theorem vf_X2_debt : vfacts RX2 yX2_debt cX2_debt 3 (some .int) 2 := ⟨⟨rfl, by decide +kernel, by decide +kernel, by decide +kernel⟩, gm_268, gm_269, gm_2, gm_270⟩
theorem vf_X3_debt : vfacts RX3 yX3_debt cX3_debt 3 (some .int) 2 := ⟨⟨rfl, by decide +kernel, by decide +kernel, by decide +kernel⟩, gm_564, gm_565, gm_5, gm_566⟩
set_option maxRecDepth 100000 in
set_option maxHeartbeats 4000000 in
theorem law_debt {p : Program} {l : Launch} {e : Env} {s : State} {m : MethodId} {args : Array Value} {below : List Frame} {meth : Method} {c : Code} {D : va_G} {cI cB : ClassId} {aS aV : Nat} {a b : Nat → Nat} {q L : Nat} {xs : Nat → Int32} {cells slots : Nat} {Q : State → Prop} (C : lC p s m c args D cI cB aS aV a b q L xs) (hc : cells ≤ room_1.cells ∧ slots ≤ room_1.slots) {i : Nat} (hi : i + 4 ≤ L) {H : Heap} {locs : List Loc} (J : lJ D cI cB a b s i H locs) {ls : Array Slot} (hl : lv_has ls 4 [(3, .int (nI i)), (2, .ref (b 0)), (1, .ref (a 0)), (0, .ref q)]) (kk : ∀ (H : Heap) (locs : List Loc), lJ D cI cB a b s (i + 1) H locs → W p l e room_1 s m args below meth c H locs cells slots Q (F0 m 687 ls [])) : W p l e room_1 s m args below meth c H locs cells slots Q (F0 m 387 ls []) := by
  obtain ⟨hx, hb, hml, hown, hg, hK, hE0, hX, hbl, hL, hDX, hDM, hAP⟩ := C
  obtain ⟨pl, n, st, ik, td, nd, nh, bs, ktd, knd, knh, kbs, pg, kd, ag, pa, bo, dm, dn, hh, hn, kag, kpa, kbo, kdm, kdn, khh, khn, wb, ps, ty, bo2, kbo2, sv, sd, ik2, ks, hf, hst, hI, hPX, hPM, hS⟩ := J
  have hbA : ¬ (fun r : Nat => s.heap.size ≤ r) q := Nat.not_le.mpr hbl
  obtain ⟨hn6, qpl, qpg, hks, ⟨qt, qnd, qnh, qhh, qok⟩, hbo, hik, hkp⟩ := id hI
  refine lv_aload_n hx hb dL_law_387 rfl (lv_at hl 2 rfl) ?_
  refine lv_aload_n hx hb dL_law_388 rfl (lv_at hl 3 rfl) ?_
  refine lv_iload_n hx hb dL_law_389 rfl (lv_at hl 0 rfl) ?_
  refine lv_iconst (v := nI 1) hx hb dL_law_390 (by decide) ?_
  refine nv_iadd hx hb dL_law_391 ?_
  refine va_sld hx hb hX hbl hbA hS (pk_in (i + 1) L (by omega)) dL_law_392 ?_
  refine lv_aload_n hx hb dL_law_393 rfl (lv_at hl 3 rfl) ?_
  refine lv_iload_n hx hb dL_law_394 rfl (lv_at hl 0 rfl) ?_
  refine lv_iconst (v := nI 2) hx hb dL_law_395 (by decide) ?_
  refine nv_iadd hx hb dL_law_396 ?_
  refine va_sld hx hb hX hbl hbA hS (pk_in (i + 2) L (by omega)) dL_law_397 ?_
  refine wrVi (As := [.int (xs (nI (i + 1)).toNatClampNeg), .int (xs (nI (i + 2)).toNatClampNeg)]) (rest := []) hx hb hml hown hg (c_X2_debt l D cI cB aS a pl n st ik td nd nh bs ktd knd knh kbs pg kd ag pa bo dm dn hh hn kag kpa kbo kdm kdn khh khn wb ps ty (xs (nI (i + 1)).toNatClampNeg) (xs (nI (i + 2)).toNatClampNeg) ((hDX _ XW_addr).weaken (fun _ _ _ _ => trivial)) qnd hn6) gm_267 vf_X2_debt ⟨Nat.le_of_ble_eq_true rfl, Nat.le_of_ble_eq_true rfl⟩ ⟨rfl, rfl⟩ hc (RP.preV hK hPX (q0 := 0) (ci := 2) XW_g0 rfl) rfl hl.1 rfl (Nat.le_of_ble_eq_true rfl) dL_law_398 hS (inW_all (hDX _ XW_addr)) (fun r_1 u_1 H1 locs1 hpo_1 hP1 hk1 hS1 => ?_)
  have hPM := wkept hPM (fun r h1 h2 => hAP _ _ XW_addr MW_addr r h2 h1) hk1
  clear hk1
  have hS := hS1
  have er_1 : r_1 = (debF n nd dm dn (xs (nI (i + 1)).toNatClampNeg) (xs (nI (i + 2)).toNatClampNeg)).1 := congrArg Prod.fst hpo_1
  have eu_1 : u_1 = (debF n nd dm dn (xs (nI (i + 1)).toNatClampNeg) (xs (nI (i + 2)).toNatClampNeg)).2 := congrArg Prod.snd hpo_1
  clear hpo_1
  subst eu_1
  have hPX : va_P D vwCl (XW cI a pl n st ik td ((debF n nd dm dn (xs (nI (i + 1)).toNatClampNeg) (xs (nI (i + 2)).toNatClampNeg)).2.2.2) nh bs ktd knd knh kbs pg kd ag pa bo ((debF n nd dm dn (xs (nI (i + 1)).toNatClampNeg) (xs (nI (i + 2)).toNatClampNeg)).2.1) ((debF n nd dm dn (xs (nI (i + 1)).toNatClampNeg) (xs (nI (i + 2)).toNatClampNeg)).2.2.1) hh hn kag kpa kbo kdm kdn khh khn wb ps ty) H1 := hP1
  clear hP1
  refine lv_aload_n hx hb dL_law_401 rfl (lv_at hl 1 rfl) ?_
  refine lv_aload_n hx hb dL_law_402 rfl (lv_at hl 3 rfl) ?_
  refine lv_iload_n hx hb dL_law_403 rfl (lv_at hl 0 rfl) ?_
  refine lv_iconst (v := nI 1) hx hb dL_law_404 (by decide) ?_
  refine nv_iadd hx hb dL_law_405 ?_
  refine va_sld hx hb hX hbl hbA hS (pk_in (i + 1) L (by omega)) dL_law_406 ?_
  refine lv_aload_n hx hb dL_law_407 rfl (lv_at hl 3 rfl) ?_
  refine lv_iload_n hx hb dL_law_408 rfl (lv_at hl 0 rfl) ?_
  refine lv_iconst (v := nI 2) hx hb dL_law_409 (by decide) ?_
  refine nv_iadd hx hb dL_law_410 ?_
  refine va_sld hx hb hX hbl hbA hS (pk_in (i + 2) L (by omega)) dL_law_411 ?_
  refine wrVi (As := [.int (xs (nI (i + 1)).toNatClampNeg), .int (xs (nI (i + 2)).toNatClampNeg)]) (rest := [.int r_1]) hx hb hml hown hg (c_X3_debt l D cI cB aS b st n td nd nh pl bs kd ag bo2 pa dm dn hh hn pg sv sd ik2 ks ktd knd knh kbs kag kbo2 kpa kdm kdn khh khn hf (xs (nI (i + 1)).toNatClampNeg) (xs (nI (i + 2)).toNatClampNeg) ((hDM _ MW_addr).weaken (fun _ _ _ _ => trivial)) qnd hn6) gm_563 vf_X3_debt ⟨Nat.le_of_ble_eq_true rfl, Nat.le_of_ble_eq_true rfl⟩ ⟨rfl, rfl⟩ hc (RP.preV hK hPM (q0 := 0) (ci := 3) MW_g0 rfl) rfl hl.1 rfl (Nat.le_of_ble_eq_true rfl) dL_law_412 hS (inW_all (hDM _ MW_addr)) (fun r_2 u_2 H2 locs2 hpo_2 hP2 hk2 hS2 => ?_)
  have hPX := wkept hPX (fun r h1 h2 => hAP _ _ XW_addr MW_addr r h1 h2) hk2
  clear hk2
  have hS := hS2
  have er_2 : r_2 = (debF n nd dm dn (xs (nI (i + 1)).toNatClampNeg) (xs (nI (i + 2)).toNatClampNeg)).1 := congrArg Prod.fst hpo_2
  have eu_2 : u_2 = (debF n nd dm dn (xs (nI (i + 1)).toNatClampNeg) (xs (nI (i + 2)).toNatClampNeg)).2 := congrArg Prod.snd hpo_2
  clear hpo_2
  subst eu_2
  have hPM : va_P D vwCl (MW cI cB b st n td ((debF n nd dm dn (xs (nI (i + 1)).toNatClampNeg) (xs (nI (i + 2)).toNatClampNeg)).2.2.2) nh pl bs kd ag bo2 pa ((debF n nd dm dn (xs (nI (i + 1)).toNatClampNeg) (xs (nI (i + 2)).toNatClampNeg)).2.1) ((debF n nd dm dn (xs (nI (i + 1)).toNatClampNeg) (xs (nI (i + 2)).toNatClampNeg)).2.2.1) hh hn pg sv sd ik2 ks ktd knd knh kbs kag kbo2 kpa kdm kdn khh khn hf) H2 := hP2
  refine lv_icmp_eq (tgt := 687) hx hb dL_law_415 (by decide) (fun _ => ?_) (fun h9 => absurd (er_1.trans er_2.symm) h9)
  exact kk _ _ (lJ.of hPX hPM hS (by omega) (hI.mom ⟨qt, deb_ok qnd, qnh, qhh, qok⟩ hbo))
theorem vf_X2_pay : vfacts RX2 yX2_pay cX2_pay 3 (some .int) 0 := ⟨⟨rfl, by decide +kernel, by decide +kernel, by decide +kernel⟩, gm_272, gm_273, gm_2, gm_274⟩
theorem vf_X3_pay : vfacts RX3 yX3_pay cX3_pay 3 (some .int) 0 := ⟨⟨rfl, by decide +kernel, by decide +kernel, by decide +kernel⟩, gm_568, gm_569, gm_5, gm_570⟩
set_option maxRecDepth 100000 in
set_option maxHeartbeats 4000000 in
theorem law_pay {p : Program} {l : Launch} {e : Env} {s : State} {m : MethodId} {args : Array Value} {below : List Frame} {meth : Method} {c : Code} {D : va_G} {cI cB : ClassId} {aS aV : Nat} {a b : Nat → Nat} {q L : Nat} {xs : Nat → Int32} {cells slots : Nat} {Q : State → Prop} (C : lC p s m c args D cI cB aS aV a b q L xs) (hc : cells ≤ room_1.cells ∧ slots ≤ room_1.slots) {i : Nat} (hi : i + 4 ≤ L) {H : Heap} {locs : List Loc} (J : lJ D cI cB a b s i H locs) {ls : Array Slot} (hl : lv_has ls 4 [(3, .int (nI i)), (2, .ref (b 0)), (1, .ref (a 0)), (0, .ref q)]) (kk : ∀ (H : Heap) (locs : List Loc), lJ D cI cB a b s (i + 1) H locs → W p l e room_1 s m args below meth c H locs cells slots Q (F0 m 687 ls [])) : W p l e room_1 s m args below meth c H locs cells slots Q (F0 m 420 ls []) := by
  obtain ⟨hx, hb, hml, hown, hg, hK, hE0, hX, hbl, hL, hDX, hDM, hAP⟩ := C
  obtain ⟨pl, n, st, ik, td, nd, nh, bs, ktd, knd, knh, kbs, pg, kd, ag, pa, bo, dm, dn, hh, hn, kag, kpa, kbo, kdm, kdn, khh, khn, wb, ps, ty, bo2, kbo2, sv, sd, ik2, ks, hf, hst, hI, hPX, hPM, hS⟩ := J
  have hbA : ¬ (fun r : Nat => s.heap.size ≤ r) q := Nat.not_le.mpr hbl
  obtain ⟨hn6, qpl, qpg, hks, ⟨qt, qnd, qnh, qhh, qok⟩, hbo, hik, hkp⟩ := id hI
  refine lv_aload_n hx hb dL_law_420 rfl (lv_at hl 2 rfl) ?_
  refine wrVi (As := []) (rest := []) hx hb hml hown hg (c_X2_pay l D cI cB aS a pl n st ik td nd nh bs ktd knd knh kbs pg kd ag pa bo dm dn hh hn kag kpa kbo kdm kdn khh khn wb ps ty ((hDX _ XW_addr).weaken (fun _ _ _ _ => trivial)) qnd) gm_271 vf_X2_pay ⟨Nat.le_of_ble_eq_true rfl, Nat.le_of_ble_eq_true rfl⟩ ⟨rfl, rfl⟩ hc (RP.preV hK hPX (q0 := 0) (ci := 2) XW_g0 rfl) rfl hl.1 rfl (Nat.le_of_ble_eq_true rfl) dL_law_421 hS (inW_all (hDX _ XW_addr)) (fun r_1 u_1 H1 locs1 hpo_1 hP1 hk1 hS1 => ?_)
  have hPM := wkept hPM (fun r h1 h2 => hAP _ _ XW_addr MW_addr r h2 h1) hk1
  clear hk1
  have hS := hS1
  have hPX : va_P D vwCl (XW cI a pl n st ik td 0 nh bs ktd knd knh kbs pg kd ag pa bo dm dn hh hn kag kpa kbo kdm kdn khh khn wb ps ty) H1 := hP1
  clear hP1
  refine lv_aload_n hx hb dL_law_424 rfl (lv_at hl 1 rfl) ?_
  refine wrVi (As := []) (rest := [.int r_1]) hx hb hml hown hg (c_X3_pay l D cI cB aS b st n td nd nh pl bs kd ag bo2 pa dm dn hh hn pg sv sd ik2 ks ktd knd knh kbs kag kbo2 kpa kdm kdn khh khn hf ((hDM _ MW_addr).weaken (fun _ _ _ _ => trivial)) qnd) gm_567 vf_X3_pay ⟨Nat.le_of_ble_eq_true rfl, Nat.le_of_ble_eq_true rfl⟩ ⟨rfl, rfl⟩ hc (RP.preV hK hPM (q0 := 0) (ci := 3) MW_g0 rfl) rfl hl.1 rfl (Nat.le_of_ble_eq_true rfl) dL_law_425 hS (inW_all (hDM _ MW_addr)) (fun r_2 u_2 H2 locs2 hpo_2 hP2 hk2 hS2 => ?_)
  have hPX := wkept hPX (fun r h1 h2 => hAP _ _ XW_addr MW_addr r h1 h2) hk2
  clear hk2
  have hS := hS2
  have hPM : va_P D vwCl (MW cI cB b st n td 0 nh pl bs kd ag bo2 pa dm dn hh hn pg sv sd ik2 ks ktd knd knh kbs kag kbo2 kpa kdm kdn khh khn hf) H2 := hP2
  refine lv_icmp_eq (tgt := 687) hx hb dL_law_428 (by decide) (fun _ => ?_) (fun h9 => absurd (hpo_1.trans hpo_2.symm) h9)
  exact kk _ _ (lJ.of hPX hPM hS (by omega) (hI.mom ⟨qt, Nat.zero_le _, qnh, qhh, qok⟩ hbo))
theorem vf_X3_cheap : vfacts RX3 yX3_cheap cX3_cheap 3 (some .int) 2 := ⟨⟨rfl, by decide +kernel, by decide +kernel, by decide +kernel⟩, gm_572, gm_573, gm_5, gm_574⟩
set_option maxRecDepth 100000 in
set_option maxHeartbeats 4000000 in
theorem law_cheap {p : Program} {l : Launch} {e : Env} {s : State} {m : MethodId} {args : Array Value} {below : List Frame} {meth : Method} {c : Code} {D : va_G} {cI cB : ClassId} {aS aV : Nat} {a b : Nat → Nat} {q L : Nat} {xs : Nat → Int32} {cells slots : Nat} {Q : State → Prop} (C : lC p s m c args D cI cB aS aV a b q L xs) (hc : cells ≤ room_1.cells ∧ slots ≤ room_1.slots) {i : Nat} (hi : i + 4 ≤ L) {H : Heap} {locs : List Loc} (J : lJ D cI cB a b s i H locs) {ls : Array Slot} (hl : lv_has ls 4 [(3, .int (nI i)), (2, .ref (b 0)), (1, .ref (a 0)), (0, .ref q)]) (kk : ∀ (H : Heap) (locs : List Loc), lJ D cI cB a b s (i + 1) H locs → W p l e room_1 s m args below meth c H locs cells slots Q (F0 m 687 ls [])) : W p l e room_1 s m args below meth c H locs cells slots Q (F0 m 433 ls []) := by
  obtain ⟨hx, hb, hml, hown, hg, hK, hE0, hX, hbl, hL, hDX, hDM, hAP⟩ := C
  obtain ⟨pl, n, st, ik, td, nd, nh, bs, ktd, knd, knh, kbs, pg, kd, ag, pa, bo, dm, dn, hh, hn, kag, kpa, kbo, kdm, kdn, khh, khn, wb, ps, ty, bo2, kbo2, sv, sd, ik2, ks, hf, hst, hI, hPX, hPM, hS⟩ := J
  have hbA : ¬ (fun r : Nat => s.heap.size ≤ r) q := Nat.not_le.mpr hbl
  obtain ⟨hn6, qpl, qpg, hks, ⟨qt, qnd, qnh, qhh, qok⟩, hbo, hik, hkp⟩ := id hI
  refine lv_aload_n hx hb dL_law_433 rfl (lv_at hl 2 rfl) ?_
  refine lv_aload_n hx hb dL_law_434 rfl (lv_at hl 3 rfl) ?_
  refine lv_iload_n hx hb dL_law_435 rfl (lv_at hl 0 rfl) ?_
  refine lv_iconst (v := nI 1) hx hb dL_law_436 (by decide) ?_
  refine nv_iadd hx hb dL_law_437 ?_
  refine va_sld hx hb hX hbl hbA hS (pk_in (i + 1) L (by omega)) dL_law_438 ?_
  refine lv_aload_n hx hb dL_law_439 rfl (lv_at hl 3 rfl) ?_
  refine lv_iload_n hx hb dL_law_440 rfl (lv_at hl 0 rfl) ?_
  refine lv_iconst (v := nI 2) hx hb dL_law_441 (by decide) ?_
  refine nv_iadd hx hb dL_law_442 ?_
  refine va_sld hx hb hX hbl hbA hS (pk_in (i + 2) L (by omega)) dL_law_443 ?_
  refine wrVi (As := [.int (xs (nI (i + 1)).toNatClampNeg), .int (xs (nI (i + 2)).toNatClampNeg)]) (rest := []) hx hb hml hown hg (c_X2_cheap l D cI cB aS a pl n st ik td nd nh bs ktd knd knh kbs pg kd ag pa bo dm dn hh hn kag kpa kbo kdm kdn khh khn wb ps ty (xs (nI (i + 1)).toNatClampNeg) (xs (nI (i + 2)).toNatClampNeg) ((hDX _ XW_addr).weaken (fun _ _ _ _ => trivial)) hn6) gm_275 vf_X2_cheap ⟨Nat.le_of_ble_eq_true rfl, Nat.le_of_ble_eq_true rfl⟩ ⟨rfl, rfl⟩ hc (RP.preV hK hPX (q0 := 0) (ci := 2) XW_g0 rfl) rfl hl.1 rfl (Nat.le_of_ble_eq_true rfl) dL_law_444 hS (inW_all (hDX _ XW_addr)) (fun r_1 u_1 H1 locs1 hpo_1 hP1 hk1 hS1 => ?_)
  have hPM := wkept hPM (fun r h1 h2 => hAP _ _ XW_addr MW_addr r h2 h1) hk1
  clear hk1
  have hS := hS1
  have hPX : va_P D vwCl (XW cI a pl n st ik td nd nh bs ktd knd knh kbs pg kd ag pa bo dm dn hh hn kag kpa kbo kdm kdn khh khn u_1 ps ty) H1 := hP1
  clear hP1
  refine lv_aload_n hx hb dL_law_447 rfl (lv_at hl 1 rfl) ?_
  refine lv_aload_n hx hb dL_law_448 rfl (lv_at hl 3 rfl) ?_
  refine lv_iload_n hx hb dL_law_449 rfl (lv_at hl 0 rfl) ?_
  refine lv_iconst (v := nI 1) hx hb dL_law_450 (by decide) ?_
  refine nv_iadd hx hb dL_law_451 ?_
  refine va_sld hx hb hX hbl hbA hS (pk_in (i + 1) L (by omega)) dL_law_452 ?_
  refine lv_aload_n hx hb dL_law_453 rfl (lv_at hl 3 rfl) ?_
  refine lv_iload_n hx hb dL_law_454 rfl (lv_at hl 0 rfl) ?_
  refine lv_iconst (v := nI 2) hx hb dL_law_455 (by decide) ?_
  refine nv_iadd hx hb dL_law_456 ?_
  refine va_sld hx hb hX hbl hbA hS (pk_in (i + 2) L (by omega)) dL_law_457 ?_
  refine wrVi (As := [.int (xs (nI (i + 1)).toNatClampNeg), .int (xs (nI (i + 2)).toNatClampNeg)]) (rest := [.int r_1]) hx hb hml hown hg (c_X3_cheap l D cI cB aS b st n td nd nh pl bs kd ag bo2 pa dm dn hh hn pg sv sd ik2 ks ktd knd knh kbs kag kbo2 kpa kdm kdn khh khn hf (xs (nI (i + 1)).toNatClampNeg) (xs (nI (i + 2)).toNatClampNeg) ((hDM _ MW_addr).weaken (fun _ _ _ _ => trivial)) hn6) gm_571 vf_X3_cheap ⟨Nat.le_of_ble_eq_true rfl, Nat.le_of_ble_eq_true rfl⟩ ⟨rfl, rfl⟩ hc (RP.preV hK hPM (q0 := 0) (ci := 3) MW_g0 rfl) rfl hl.1 rfl (Nat.le_of_ble_eq_true rfl) dL_law_458 hS (inW_all (hDM _ MW_addr)) (fun r_2 u_2 H2 locs2 hpo_2 hP2 hk2 hS2 => ?_)
  have hPX := wkept hPX (fun r h1 h2 => hAP _ _ XW_addr MW_addr r h1 h2) hk2
  clear hk2
  have hS := hS2
  have hPM : va_P D vwCl (MW cI cB b st n td nd nh pl bs kd ag bo2 pa dm dn hh hn pg u_2 sd ik2 ks ktd knd knh kbs kag kbo2 kpa kdm kdn khh khn hf) H2 := hP2
  refine lv_icmp_eq (tgt := 687) hx hb dL_law_461 (by decide) (fun _ => ?_) (fun h9 => absurd (hpo_1.trans hpo_2.symm) h9)
  exact kk _ _ (lJ.of hPX hPM hS (by omega) hI)
theorem vf_X2_when : vfacts RX2 yX2_when cX2_when 6 (some .int) 2 := ⟨⟨rfl, by decide +kernel, by decide +kernel, by decide +kernel⟩, gm_305, gm_306, gm_2, gm_307⟩
theorem vf_X3_when : vfacts RX3 yX3_when cX3_when 3 (some .int) 2 := ⟨⟨rfl, by decide +kernel, by decide +kernel, by decide +kernel⟩, gm_598, gm_599, gm_5, gm_600⟩
set_option maxRecDepth 100000 in
set_option maxHeartbeats 4000000 in
theorem law_when {p : Program} {l : Launch} {e : Env} {s : State} {m : MethodId} {args : Array Value} {below : List Frame} {meth : Method} {c : Code} {D : va_G} {cI cB : ClassId} {aS aV : Nat} {a b : Nat → Nat} {q L : Nat} {xs : Nat → Int32} {cells slots : Nat} {Q : State → Prop} (C : lC p s m c args D cI cB aS aV a b q L xs) (hc : cells ≤ room_1.cells ∧ slots ≤ room_1.slots) {i : Nat} (hi : i + 4 ≤ L) {H : Heap} {locs : List Loc} (J : lJ D cI cB a b s i H locs) {ls : Array Slot} (hl : lv_has ls 4 [(3, .int (nI i)), (2, .ref (b 0)), (1, .ref (a 0)), (0, .ref q)]) (kk : ∀ (H : Heap) (locs : List Loc), lJ D cI cB a b s (i + 1) H locs → W p l e room_1 s m args below meth c H locs cells slots Q (F0 m 687 ls [])) : W p l e room_1 s m args below meth c H locs cells slots Q (F0 m 466 ls []) := by
  obtain ⟨hx, hb, hml, hown, hg, hK, hE0, hX, hbl, hL, hDX, hDM, hAP⟩ := C
  obtain ⟨pl, n, st, ik, td, nd, nh, bs, ktd, knd, knh, kbs, pg, kd, ag, pa, bo, dm, dn, hh, hn, kag, kpa, kbo, kdm, kdn, khh, khn, wb, ps, ty, bo2, kbo2, sv, sd, ik2, ks, hf, hst, hI, hPX, hPM, hS⟩ := J
  have hbA : ¬ (fun r : Nat => s.heap.size ≤ r) q := Nat.not_le.mpr hbl
  obtain ⟨hn6, qpl, qpg, hks, ⟨qt, qnd, qnh, qhh, qok⟩, hbo, hik, hkp⟩ := id hI
  refine lv_aload_n hx hb dL_law_466 rfl (lv_at hl 2 rfl) ?_
  refine lv_aload_n hx hb dL_law_467 rfl (lv_at hl 3 rfl) ?_
  refine lv_iload_n hx hb dL_law_468 rfl (lv_at hl 0 rfl) ?_
  refine lv_iconst (v := nI 1) hx hb dL_law_469 (by decide) ?_
  refine nv_iadd hx hb dL_law_470 ?_
  refine va_sld hx hb hX hbl hbA hS (pk_in (i + 1) L (by omega)) dL_law_471 ?_
  refine lv_aload_n hx hb dL_law_472 rfl (lv_at hl 3 rfl) ?_
  refine lv_iload_n hx hb dL_law_473 rfl (lv_at hl 0 rfl) ?_
  refine lv_iconst (v := nI 2) hx hb dL_law_474 (by decide) ?_
  refine nv_iadd hx hb dL_law_475 ?_
  refine va_sld hx hb hX hbl hbA hS (pk_in (i + 2) L (by omega)) dL_law_476 ?_
  refine rdV (As := [.int (xs (nI (i + 1)).toNatClampNeg), .int (xs (nI (i + 2)).toNatClampNeg)]) (rest := []) hx hb hml hown hg (c_X2_when l D cI cB aS a pl n st ik td nd nh bs ktd knd knh kbs pg kd ag pa bo dm dn hh hn kag kpa kbo kdm kdn khh khn wb ps ty (xs (nI (i + 1)).toNatClampNeg) (xs (nI (i + 2)).toNatClampNeg) hn6) gm_304 vf_X2_when ⟨Nat.le_of_ble_eq_true rfl, Nat.le_of_ble_eq_true rfl⟩ ⟨rfl, rfl⟩ hc (RP.preV hK hPX (q0 := 0) (ci := 2) XW_g0 rfl) rfl hl.1 rfl (Nat.le_of_ble_eq_true rfl) dL_law_477 ?_
  refine lv_aload_n hx hb dL_law_480 rfl (lv_at hl 1 rfl) ?_
  refine lv_aload_n hx hb dL_law_481 rfl (lv_at hl 3 rfl) ?_
  refine lv_iload_n hx hb dL_law_482 rfl (lv_at hl 0 rfl) ?_
  refine lv_iconst (v := nI 1) hx hb dL_law_483 (by decide) ?_
  refine nv_iadd hx hb dL_law_484 ?_
  refine va_sld hx hb hX hbl hbA hS (pk_in (i + 1) L (by omega)) dL_law_485 ?_
  refine lv_aload_n hx hb dL_law_486 rfl (lv_at hl 3 rfl) ?_
  refine lv_iload_n hx hb dL_law_487 rfl (lv_at hl 0 rfl) ?_
  refine lv_iconst (v := nI 2) hx hb dL_law_488 (by decide) ?_
  refine nv_iadd hx hb dL_law_489 ?_
  refine va_sld hx hb hX hbl hbA hS (pk_in (i + 2) L (by omega)) dL_law_490 ?_
  refine rdV (As := [.int (xs (nI (i + 1)).toNatClampNeg), .int (xs (nI (i + 2)).toNatClampNeg)]) (rest := [.int _]) hx hb hml hown hg (c_X3_when l D cI cB aS b st n td nd nh pl bs kd ag bo2 pa dm dn hh hn pg sv sd ik2 ks ktd knd knh kbs kag kbo2 kpa kdm kdn khh khn hf (xs (nI (i + 1)).toNatClampNeg) (xs (nI (i + 2)).toNatClampNeg) hn6) gm_597 vf_X3_when ⟨Nat.le_of_ble_eq_true rfl, Nat.le_of_ble_eq_true rfl⟩ ⟨rfl, rfl⟩ hc (RP.preV hK hPM (q0 := 0) (ci := 3) MW_g0 rfl) rfl hl.1 rfl (Nat.le_of_ble_eq_true rfl) dL_law_491 ?_
  refine lv_icmp_eq (tgt := 687) hx hb dL_law_494 (by decide) (fun _ => ?_) (fun h9 => absurd (rfl) h9)
  exact kk _ _ (lJ.of hPX hPM hS (by omega) hI)
theorem vf_X2_hear : vfacts RX2 yX2_hear cX2_hear 3 (some .int) 2 := ⟨⟨rfl, by decide +kernel, by decide +kernel, by decide +kernel⟩, gm_309, gm_310, gm_2, gm_311⟩
theorem vf_X3_hear : vfacts RX3 yX3_hear cX3_hear 3 (some .int) 2 := ⟨⟨rfl, by decide +kernel, by decide +kernel, by decide +kernel⟩, gm_605, gm_606, gm_5, gm_607⟩
set_option maxRecDepth 100000 in
set_option maxHeartbeats 4000000 in
theorem law_hear {p : Program} {l : Launch} {e : Env} {s : State} {m : MethodId} {args : Array Value} {below : List Frame} {meth : Method} {c : Code} {D : va_G} {cI cB : ClassId} {aS aV : Nat} {a b : Nat → Nat} {q L : Nat} {xs : Nat → Int32} {cells slots : Nat} {Q : State → Prop} (C : lC p s m c args D cI cB aS aV a b q L xs) (hc : cells ≤ room_1.cells ∧ slots ≤ room_1.slots) {i : Nat} (hi : i + 4 ≤ L) {H : Heap} {locs : List Loc} (J : lJ D cI cB a b s i H locs) {ls : Array Slot} (hl : lv_has ls 4 [(3, .int (nI i)), (2, .ref (b 0)), (1, .ref (a 0)), (0, .ref q)]) (kk : ∀ (H : Heap) (locs : List Loc), lJ D cI cB a b s (i + 1) H locs → W p l e room_1 s m args below meth c H locs cells slots Q (F0 m 687 ls [])) : W p l e room_1 s m args below meth c H locs cells slots Q (F0 m 499 ls []) := by
  obtain ⟨hx, hb, hml, hown, hg, hK, hE0, hX, hbl, hL, hDX, hDM, hAP⟩ := C
  obtain ⟨pl, n, st, ik, td, nd, nh, bs, ktd, knd, knh, kbs, pg, kd, ag, pa, bo, dm, dn, hh, hn, kag, kpa, kbo, kdm, kdn, khh, khn, wb, ps, ty, bo2, kbo2, sv, sd, ik2, ks, hf, hst, hI, hPX, hPM, hS⟩ := J
  have hbA : ¬ (fun r : Nat => s.heap.size ≤ r) q := Nat.not_le.mpr hbl
  obtain ⟨hn6, qpl, qpg, hks, ⟨qt, qnd, qnh, qhh, qok⟩, hbo, hik, hkp⟩ := id hI
  refine lv_aload_n hx hb dL_law_499 rfl (lv_at hl 2 rfl) ?_
  refine lv_aload_n hx hb dL_law_500 rfl (lv_at hl 3 rfl) ?_
  refine lv_iload_n hx hb dL_law_501 rfl (lv_at hl 0 rfl) ?_
  refine lv_iconst (v := nI 1) hx hb dL_law_502 (by decide) ?_
  refine nv_iadd hx hb dL_law_503 ?_
  refine va_sld hx hb hX hbl hbA hS (pk_in (i + 1) L (by omega)) dL_law_504 ?_
  refine lv_aload_n hx hb dL_law_505 rfl (lv_at hl 3 rfl) ?_
  refine lv_iload_n hx hb dL_law_506 rfl (lv_at hl 0 rfl) ?_
  refine lv_iconst (v := nI 2) hx hb dL_law_507 (by decide) ?_
  refine nv_iadd hx hb dL_law_508 ?_
  refine va_sld hx hb hX hbl hbA hS (pk_in (i + 2) L (by omega)) dL_law_509 ?_
  refine wrVi (As := [.int (xs (nI (i + 1)).toNatClampNeg), .int (xs (nI (i + 2)).toNatClampNeg)]) (rest := []) hx hb hml hown hg (c_X2_hear l D cI cB aS a pl n st ik td nd nh bs ktd knd knh kbs pg kd ag pa bo dm dn hh hn kag kpa kbo kdm kdn khh khn wb ps ty (xs (nI (i + 1)).toNatClampNeg) (xs (nI (i + 2)).toNatClampNeg) ((hDX _ XW_addr).weaken (fun _ _ _ _ => trivial)) qnh hn6) gm_308 vf_X2_hear ⟨Nat.le_of_ble_eq_true rfl, Nat.le_of_ble_eq_true rfl⟩ ⟨rfl, rfl⟩ hc (RP.preV hK hPX (q0 := 0) (ci := 2) XW_g0 rfl) rfl hl.1 rfl (Nat.le_of_ble_eq_true rfl) dL_law_510 hS (inW_all (hDX _ XW_addr)) (fun r_1 u_1 H1 locs1 hpo_1 hP1 hk1 hS1 => ?_)
  have hPM := wkept hPM (fun r h1 h2 => hAP _ _ XW_addr MW_addr r h2 h1) hk1
  clear hk1
  have hS := hS1
  have er_1 : r_1 = (heaF n nh hh hn (xs (nI (i + 1)).toNatClampNeg) (xs (nI (i + 2)).toNatClampNeg)).1 := congrArg Prod.fst hpo_1
  have eu_1 : u_1 = (heaF n nh hh hn (xs (nI (i + 1)).toNatClampNeg) (xs (nI (i + 2)).toNatClampNeg)).2 := congrArg Prod.snd hpo_1
  clear hpo_1
  subst eu_1
  have hPX : va_P D vwCl (XW cI a pl n st ik td nd ((heaF n nh hh hn (xs (nI (i + 1)).toNatClampNeg) (xs (nI (i + 2)).toNatClampNeg)).2.2.2) bs ktd knd knh kbs pg kd ag pa bo dm dn ((heaF n nh hh hn (xs (nI (i + 1)).toNatClampNeg) (xs (nI (i + 2)).toNatClampNeg)).2.1) ((heaF n nh hh hn (xs (nI (i + 1)).toNatClampNeg) (xs (nI (i + 2)).toNatClampNeg)).2.2.1) kag kpa kbo kdm kdn khh khn wb ps ty) H1 := hP1
  clear hP1
  refine lv_aload_n hx hb dL_law_513 rfl (lv_at hl 1 rfl) ?_
  refine lv_aload_n hx hb dL_law_514 rfl (lv_at hl 3 rfl) ?_
  refine lv_iload_n hx hb dL_law_515 rfl (lv_at hl 0 rfl) ?_
  refine lv_iconst (v := nI 1) hx hb dL_law_516 (by decide) ?_
  refine nv_iadd hx hb dL_law_517 ?_
  refine va_sld hx hb hX hbl hbA hS (pk_in (i + 1) L (by omega)) dL_law_518 ?_
  refine lv_aload_n hx hb dL_law_519 rfl (lv_at hl 3 rfl) ?_
  refine lv_iload_n hx hb dL_law_520 rfl (lv_at hl 0 rfl) ?_
  refine lv_iconst (v := nI 2) hx hb dL_law_521 (by decide) ?_
  refine nv_iadd hx hb dL_law_522 ?_
  refine va_sld hx hb hX hbl hbA hS (pk_in (i + 2) L (by omega)) dL_law_523 ?_
  refine wrVi (As := [.int (xs (nI (i + 1)).toNatClampNeg), .int (xs (nI (i + 2)).toNatClampNeg)]) (rest := [.int r_1]) hx hb hml hown hg (c_X3_hear l D cI cB aS b st n td nd nh pl bs kd ag bo2 pa dm dn hh hn pg sv sd ik2 ks ktd knd knh kbs kag kbo2 kpa kdm kdn khh khn hf (xs (nI (i + 1)).toNatClampNeg) (xs (nI (i + 2)).toNatClampNeg) ((hDM _ MW_addr).weaken (fun _ _ _ _ => trivial)) qnh hn6) gm_604 vf_X3_hear ⟨Nat.le_of_ble_eq_true rfl, Nat.le_of_ble_eq_true rfl⟩ ⟨rfl, rfl⟩ hc (RP.preV hK hPM (q0 := 0) (ci := 3) MW_g0 rfl) rfl hl.1 rfl (Nat.le_of_ble_eq_true rfl) dL_law_524 hS (inW_all (hDM _ MW_addr)) (fun r_2 u_2 H2 locs2 hpo_2 hP2 hk2 hS2 => ?_)
  have hPX := wkept hPX (fun r h1 h2 => hAP _ _ XW_addr MW_addr r h1 h2) hk2
  clear hk2
  have hS := hS2
  have er_2 : r_2 = (heaF n nh hh hn (xs (nI (i + 1)).toNatClampNeg) (xs (nI (i + 2)).toNatClampNeg)).1 := congrArg Prod.fst hpo_2
  have eu_2 : u_2 = (heaF n nh hh hn (xs (nI (i + 1)).toNatClampNeg) (xs (nI (i + 2)).toNatClampNeg)).2 := congrArg Prod.snd hpo_2
  clear hpo_2
  subst eu_2
  have hPM : va_P D vwCl (MW cI cB b st n td nd ((heaF n nh hh hn (xs (nI (i + 1)).toNatClampNeg) (xs (nI (i + 2)).toNatClampNeg)).2.2.2) pl bs kd ag bo2 pa dm dn ((heaF n nh hh hn (xs (nI (i + 1)).toNatClampNeg) (xs (nI (i + 2)).toNatClampNeg)).2.1) ((heaF n nh hh hn (xs (nI (i + 1)).toNatClampNeg) (xs (nI (i + 2)).toNatClampNeg)).2.2.1) pg sv sd ik2 ks ktd knd knh kbs kag kbo2 kpa kdm kdn khh khn hf) H2 := hP2
  refine lv_icmp_eq (tgt := 687) hx hb dL_law_527 (by decide) (fun _ => ?_) (fun h9 => absurd (er_1.trans er_2.symm) h9)
  exact kk _ _ (lJ.of hPX hPM hS (by omega) (hI.mom ⟨qt, qnd, (hea_ok hn6 qnh qhh).1, (hea_ok hn6 qnh qhh).2, qok⟩ hbo))
theorem vf_X2_forget : vfacts RX2 yX2_forget cX2_forget 2 (some .int) 0 := ⟨⟨rfl, by decide +kernel, by decide +kernel, by decide +kernel⟩, gm_313, gm_314, gm_2, gm_315⟩
theorem vf_X3_forget : vfacts RX3 yX3_forget cX3_forget 2 (some .int) 0 := ⟨⟨rfl, by decide +kernel, by decide +kernel, by decide +kernel⟩, gm_609, gm_610, gm_5, gm_611⟩
set_option maxRecDepth 100000 in
set_option maxHeartbeats 4000000 in
theorem law_forget {p : Program} {l : Launch} {e : Env} {s : State} {m : MethodId} {args : Array Value} {below : List Frame} {meth : Method} {c : Code} {D : va_G} {cI cB : ClassId} {aS aV : Nat} {a b : Nat → Nat} {q L : Nat} {xs : Nat → Int32} {cells slots : Nat} {Q : State → Prop} (C : lC p s m c args D cI cB aS aV a b q L xs) (hc : cells ≤ room_1.cells ∧ slots ≤ room_1.slots) {i : Nat} (hi : i + 4 ≤ L) {H : Heap} {locs : List Loc} (J : lJ D cI cB a b s i H locs) {ls : Array Slot} (hl : lv_has ls 4 [(3, .int (nI i)), (2, .ref (b 0)), (1, .ref (a 0)), (0, .ref q)]) (kk : ∀ (H : Heap) (locs : List Loc), lJ D cI cB a b s (i + 1) H locs → W p l e room_1 s m args below meth c H locs cells slots Q (F0 m 687 ls [])) : W p l e room_1 s m args below meth c H locs cells slots Q (F0 m 532 ls []) := by
  obtain ⟨hx, hb, hml, hown, hg, hK, hE0, hX, hbl, hL, hDX, hDM, hAP⟩ := C
  obtain ⟨pl, n, st, ik, td, nd, nh, bs, ktd, knd, knh, kbs, pg, kd, ag, pa, bo, dm, dn, hh, hn, kag, kpa, kbo, kdm, kdn, khh, khn, wb, ps, ty, bo2, kbo2, sv, sd, ik2, ks, hf, hst, hI, hPX, hPM, hS⟩ := J
  have hbA : ¬ (fun r : Nat => s.heap.size ≤ r) q := Nat.not_le.mpr hbl
  obtain ⟨hn6, qpl, qpg, hks, ⟨qt, qnd, qnh, qhh, qok⟩, hbo, hik, hkp⟩ := id hI
  refine lv_aload_n hx hb dL_law_532 rfl (lv_at hl 2 rfl) ?_
  refine wrVi (As := []) (rest := []) hx hb hml hown hg (c_X2_forget l D cI cB aS a pl n st ik td nd nh bs ktd knd knh kbs pg kd ag pa bo dm dn hh hn kag kpa kbo kdm kdn khh khn wb ps ty ((hDX _ XW_addr).weaken (fun _ _ _ _ => trivial))) gm_312 vf_X2_forget ⟨Nat.le_of_ble_eq_true rfl, Nat.le_of_ble_eq_true rfl⟩ ⟨rfl, rfl⟩ hc (RP.preV hK hPX (q0 := 0) (ci := 2) XW_g0 rfl) rfl hl.1 rfl (Nat.le_of_ble_eq_true rfl) dL_law_533 hS (inW_all (hDX _ XW_addr)) (fun r_1 u_1 H1 locs1 hpo_1 hP1 hk1 hS1 => ?_)
  have hPM := wkept hPM (fun r h1 h2 => hAP _ _ XW_addr MW_addr r h2 h1) hk1
  clear hk1
  have hS := hS1
  have hPX : va_P D vwCl (XW cI a pl n st ik td nd 0 bs ktd knd knh kbs pg kd ag pa bo dm dn hh hn kag kpa kbo kdm kdn khh khn wb ps ty) H1 := hP1
  clear hP1
  refine lv_aload_n hx hb dL_law_536 rfl (lv_at hl 1 rfl) ?_
  refine wrVi (As := []) (rest := [.int r_1]) hx hb hml hown hg (c_X3_forget l D cI cB aS b st n td nd nh pl bs kd ag bo2 pa dm dn hh hn pg sv sd ik2 ks ktd knd knh kbs kag kbo2 kpa kdm kdn khh khn hf ((hDM _ MW_addr).weaken (fun _ _ _ _ => trivial))) gm_608 vf_X3_forget ⟨Nat.le_of_ble_eq_true rfl, Nat.le_of_ble_eq_true rfl⟩ ⟨rfl, rfl⟩ hc (RP.preV hK hPM (q0 := 0) (ci := 3) MW_g0 rfl) rfl hl.1 rfl (Nat.le_of_ble_eq_true rfl) dL_law_537 hS (inW_all (hDM _ MW_addr)) (fun r_2 u_2 H2 locs2 hpo_2 hP2 hk2 hS2 => ?_)
  have hPX := wkept hPX (fun r h1 h2 => hAP _ _ XW_addr MW_addr r h1 h2) hk2
  clear hk2
  have hS := hS2
  have hPM : va_P D vwCl (MW cI cB b st n td nd 0 pl bs kd ag bo2 pa dm dn hh hn pg sv sd ik2 ks ktd knd knh kbs kag kbo2 kpa kdm kdn khh khn hf) H2 := hP2
  refine lv_icmp_eq (tgt := 687) hx hb dL_law_540 (by decide) (fun _ => ?_) (fun h9 => absurd (hpo_1.trans hpo_2.symm) h9)
  exact kk _ _ (lJ.of hPX hPM hS (by omega) (hI.mom ⟨qt, qnd, Nat.zero_le _, fun k hk => absurd hk (Nat.not_lt_zero k), qok⟩ hbo))
theorem vf_X3_days : vfacts RX3 yX3_days cX3_days 2 (some .int) 1 := ⟨⟨rfl, by decide +kernel, by decide +kernel, by decide +kernel⟩, gm_613, gm_614, gm_5, gm_615⟩
set_option maxRecDepth 100000 in
set_option maxHeartbeats 4000000 in
theorem law_days {p : Program} {l : Launch} {e : Env} {s : State} {m : MethodId} {args : Array Value} {below : List Frame} {meth : Method} {c : Code} {D : va_G} {cI cB : ClassId} {aS aV : Nat} {a b : Nat → Nat} {q L : Nat} {xs : Nat → Int32} {cells slots : Nat} {Q : State → Prop} (C : lC p s m c args D cI cB aS aV a b q L xs) (hc : cells ≤ room_1.cells ∧ slots ≤ room_1.slots) {i : Nat} (hi : i + 4 ≤ L) {H : Heap} {locs : List Loc} (J : lJ D cI cB a b s i H locs) {ls : Array Slot} (hl : lv_has ls 4 [(3, .int (nI i)), (2, .ref (b 0)), (1, .ref (a 0)), (0, .ref q)]) (kk : ∀ (H : Heap) (locs : List Loc), lJ D cI cB a b s (i + 1) H locs → W p l e room_1 s m args below meth c H locs cells slots Q (F0 m 687 ls [])) : W p l e room_1 s m args below meth c H locs cells slots Q (F0 m 545 ls []) := by
  obtain ⟨hx, hb, hml, hown, hg, hK, hE0, hX, hbl, hL, hDX, hDM, hAP⟩ := C
  obtain ⟨pl, n, st, ik, td, nd, nh, bs, ktd, knd, knh, kbs, pg, kd, ag, pa, bo, dm, dn, hh, hn, kag, kpa, kbo, kdm, kdn, khh, khn, wb, ps, ty, bo2, kbo2, sv, sd, ik2, ks, hf, hst, hI, hPX, hPM, hS⟩ := J
  have hbA : ¬ (fun r : Nat => s.heap.size ≤ r) q := Nat.not_le.mpr hbl
  obtain ⟨hn6, qpl, qpg, hks, ⟨qt, qnd, qnh, qhh, qok⟩, hbo, hik, hkp⟩ := id hI
  refine lv_aload_n hx hb dL_law_545 rfl (lv_at hl 2 rfl) ?_
  refine lv_aload_n hx hb dL_law_546 rfl (lv_at hl 3 rfl) ?_
  refine lv_iload_n hx hb dL_law_547 rfl (lv_at hl 0 rfl) ?_
  refine lv_iconst (v := nI 1) hx hb dL_law_548 (by decide) ?_
  refine nv_iadd hx hb dL_law_549 ?_
  refine va_sld hx hb hX hbl hbA hS (pk_in (i + 1) L (by omega)) dL_law_550 ?_
  refine rdV (As := [.int (xs (nI (i + 1)).toNatClampNeg)]) (rest := []) hx hb hml hown hg (c_X2_days l D cI cB aS a pl n st ik td nd nh bs ktd knd knh kbs pg kd ag pa bo dm dn hh hn kag kpa kbo kdm kdn khh khn wb ps ty (xs (nI (i + 1)).toNatClampNeg) hn6 qt qnh qhh) gm_316 vf_X2_days ⟨Nat.le_of_ble_eq_true rfl, Nat.le_of_ble_eq_true rfl⟩ ⟨rfl, rfl⟩ hc (RP.preV hK hPX (q0 := 0) (ci := 2) XW_g0 rfl) rfl hl.1 rfl (Nat.le_of_ble_eq_true rfl) dL_law_551 ?_
  refine lv_aload_n hx hb dL_law_554 rfl (lv_at hl 1 rfl) ?_
  refine lv_aload_n hx hb dL_law_555 rfl (lv_at hl 3 rfl) ?_
  refine lv_iload_n hx hb dL_law_556 rfl (lv_at hl 0 rfl) ?_
  refine lv_iconst (v := nI 1) hx hb dL_law_557 (by decide) ?_
  refine nv_iadd hx hb dL_law_558 ?_
  refine va_sld hx hb hX hbl hbA hS (pk_in (i + 1) L (by omega)) dL_law_559 ?_
  refine rdV (As := [.int (xs (nI (i + 1)).toNatClampNeg)]) (rest := [.int _]) hx hb hml hown hg (c_X3_days l D cI cB aS b st n td nd nh pl bs kd ag bo2 pa dm dn hh hn pg sv sd ik2 ks ktd knd knh kbs kag kbo2 kpa kdm kdn khh khn hf (xs (nI (i + 1)).toNatClampNeg) hn6 qt qnh qhh) gm_612 vf_X3_days ⟨Nat.le_of_ble_eq_true rfl, Nat.le_of_ble_eq_true rfl⟩ ⟨rfl, rfl⟩ hc (RP.preV hK hPM (q0 := 0) (ci := 3) MW_g0 rfl) rfl hl.1 rfl (Nat.le_of_ble_eq_true rfl) dL_law_560 ?_
  refine lv_icmp_eq (tgt := 687) hx hb dL_law_563 (by decide) (fun _ => ?_) (fun h9 => absurd (rfl) h9)
  exact kk _ _ (lJ.of hPX hPM hS (by omega) hI)
theorem vf_X3_ask : vfacts RX3 yX3_ask cX3_ask 1 (some .int) 0 := ⟨⟨rfl, by decide +kernel, by decide +kernel, by decide +kernel⟩, gm_623, gm_624, gm_5, gm_625⟩
set_option maxRecDepth 100000 in
set_option maxHeartbeats 4000000 in
theorem law_ask {p : Program} {l : Launch} {e : Env} {s : State} {m : MethodId} {args : Array Value} {below : List Frame} {meth : Method} {c : Code} {D : va_G} {cI cB : ClassId} {aS aV : Nat} {a b : Nat → Nat} {q L : Nat} {xs : Nat → Int32} {cells slots : Nat} {Q : State → Prop} (C : lC p s m c args D cI cB aS aV a b q L xs) (hc : cells ≤ room_1.cells ∧ slots ≤ room_1.slots) {i : Nat} (hi : i + 4 ≤ L) {H : Heap} {locs : List Loc} (J : lJ D cI cB a b s i H locs) {ls : Array Slot} (hl : lv_has ls 4 [(3, .int (nI i)), (2, .ref (b 0)), (1, .ref (a 0)), (0, .ref q)]) (kk : ∀ (H : Heap) (locs : List Loc), lJ D cI cB a b s (i + 1) H locs → W p l e room_1 s m args below meth c H locs cells slots Q (F0 m 687 ls [])) : W p l e room_1 s m args below meth c H locs cells slots Q (F0 m 568 ls []) := by
  obtain ⟨hx, hb, hml, hown, hg, hK, hE0, hX, hbl, hL, hDX, hDM, hAP⟩ := C
  obtain ⟨pl, n, st, ik, td, nd, nh, bs, ktd, knd, knh, kbs, pg, kd, ag, pa, bo, dm, dn, hh, hn, kag, kpa, kbo, kdm, kdn, khh, khn, wb, ps, ty, bo2, kbo2, sv, sd, ik2, ks, hf, hst, hI, hPX, hPM, hS⟩ := J
  have hbA : ¬ (fun r : Nat => s.heap.size ≤ r) q := Nat.not_le.mpr hbl
  obtain ⟨hn6, qpl, qpg, hks, ⟨qt, qnd, qnh, qhh, qok⟩, hbo, hik, hkp⟩ := id hI
  refine lv_aload_n hx hb dL_law_568 rfl (lv_at hl 2 rfl) ?_
  refine wrVi (As := []) (rest := []) hx hb hml hown hg (c_X2_ask l D cI cB aS a pl n st ik td nd nh bs ktd knd knh kbs pg kd ag pa bo dm dn hh hn kag kpa kbo kdm kdn khh khn wb ps ty ((hDX _ XW_addr).weaken (fun _ _ _ _ => trivial)) hn6 qt qnh qhh (ok_v40 qok qt)) gm_323 vf_X2_ask ⟨Nat.le_of_ble_eq_true rfl, Nat.le_of_ble_eq_true rfl⟩ ⟨rfl, rfl⟩ hc (RP.preV hK hPX (q0 := 0) (ci := 2) XW_g0 rfl) rfl hl.1 rfl (Nat.le_of_ble_eq_true rfl) dL_law_569 hS (inW_all (hDX _ XW_addr)) (fun r_1 u_1 H1 locs1 hpo_1 hP1 hk1 hS1 => ?_)
  have hPM := wkept hPM (fun r h1 h2 => hAP _ _ XW_addr MW_addr r h2 h1) hk1
  clear hk1
  have hS := hS1
  have hPX : va_P D vwCl (XW cI a pl n st ik td nd nh bs ktd knd knh kbs pg kd ag pa bo dm dn hh hn kag kpa kbo kdm kdn khh khn wb u_1.1 u_1.2) H1 := hP1
  refine lv_aload_n hx hb dL_law_572 rfl (lv_at hl 1 rfl) ?_
  refine rdV (As := []) (rest := [.int _]) hx hb hml hown hg (c_X3_ask l D cI cB aS b st n td nd nh pl bs kd ag bo2 pa dm dn hh hn pg sv sd ik2 ks ktd knd knh kbs kag kbo2 kpa kdm kdn khh khn hf hn6 qt qnh qhh) gm_622 vf_X3_ask ⟨Nat.le_of_ble_eq_true rfl, Nat.le_of_ble_eq_true rfl⟩ ⟨rfl, rfl⟩ hc (RP.preV hK hPM (q0 := 0) (ci := 3) MW_g0 rfl) rfl hl.1 rfl (Nat.le_of_ble_eq_true rfl) dL_law_573 ?_
  refine lv_icmp_eq (tgt := 687) hx hb dL_law_576 (by decide) (fun _ => ?_) (fun h9 => absurd (hpo_1) h9)
  exact kk _ _ (lJ.of hPX hPM hS (by omega) hI)
theorem vf_X2_years : vfacts RX2 yX2_years cX2_years 7 (some .int) 3 := ⟨⟨rfl, by decide +kernel, by decide +kernel, by decide +kernel⟩, gm_338, gm_339, gm_2, gm_340⟩
theorem vf_X3_years : vfacts RX3 yX3_years cX3_years 4 (some .int) 3 := ⟨⟨rfl, by decide +kernel, by decide +kernel, by decide +kernel⟩, gm_633, gm_634, gm_5, gm_635⟩
set_option maxRecDepth 100000 in
set_option maxHeartbeats 4000000 in
theorem law_years {p : Program} {l : Launch} {e : Env} {s : State} {m : MethodId} {args : Array Value} {below : List Frame} {meth : Method} {c : Code} {D : va_G} {cI cB : ClassId} {aS aV : Nat} {a b : Nat → Nat} {q L : Nat} {xs : Nat → Int32} {cells slots : Nat} {Q : State → Prop} (C : lC p s m c args D cI cB aS aV a b q L xs) (hc : cells ≤ room_1.cells ∧ slots ≤ room_1.slots) {i : Nat} (hi : i + 4 ≤ L) {H : Heap} {locs : List Loc} (J : lJ D cI cB a b s i H locs) {ls : Array Slot} (hl : lv_has ls 4 [(3, .int (nI i)), (2, .ref (b 0)), (1, .ref (a 0)), (0, .ref q)]) (kk : ∀ (H : Heap) (locs : List Loc), lJ D cI cB a b s (i + 1) H locs → W p l e room_1 s m args below meth c H locs cells slots Q (F0 m 687 ls [])) : W p l e room_1 s m args below meth c H locs cells slots Q (F0 m 581 ls []) := by
  obtain ⟨hx, hb, hml, hown, hg, hK, hE0, hX, hbl, hL, hDX, hDM, hAP⟩ := C
  obtain ⟨pl, n, st, ik, td, nd, nh, bs, ktd, knd, knh, kbs, pg, kd, ag, pa, bo, dm, dn, hh, hn, kag, kpa, kbo, kdm, kdn, khh, khn, wb, ps, ty, bo2, kbo2, sv, sd, ik2, ks, hf, hst, hI, hPX, hPM, hS⟩ := J
  have hbA : ¬ (fun r : Nat => s.heap.size ≤ r) q := Nat.not_le.mpr hbl
  obtain ⟨hn6, qpl, qpg, hks, ⟨qt, qnd, qnh, qhh, qok⟩, hbo, hik, hkp⟩ := id hI
  refine lv_aload_n hx hb dL_law_581 rfl (lv_at hl 2 rfl) ?_
  refine lv_aload_n hx hb dL_law_582 rfl (lv_at hl 3 rfl) ?_
  refine lv_iload_n hx hb dL_law_583 rfl (lv_at hl 0 rfl) ?_
  refine lv_iconst (v := nI 1) hx hb dL_law_584 (by decide) ?_
  refine nv_iadd hx hb dL_law_585 ?_
  refine va_sld hx hb hX hbl hbA hS (pk_in (i + 1) L (by omega)) dL_law_586 ?_
  refine lv_aload_n hx hb dL_law_587 rfl (lv_at hl 3 rfl) ?_
  refine lv_iload_n hx hb dL_law_588 rfl (lv_at hl 0 rfl) ?_
  refine lv_iconst (v := nI 2) hx hb dL_law_589 (by decide) ?_
  refine nv_iadd hx hb dL_law_590 ?_
  refine va_sld hx hb hX hbl hbA hS (pk_in (i + 2) L (by omega)) dL_law_591 ?_
  refine lv_aload_n hx hb dL_law_592 rfl (lv_at hl 3 rfl) ?_
  refine lv_iload_n hx hb dL_law_593 rfl (lv_at hl 0 rfl) ?_
  refine lv_iconst (v := nI 3) hx hb dL_law_594 (by decide) ?_
  refine nv_iadd hx hb dL_law_595 ?_
  refine va_sld hx hb hX hbl hbA hS (pk_in (i + 3) L (by omega)) dL_law_596 ?_
  refine wrVi (As := [.int (xs (nI (i + 1)).toNatClampNeg), .int (xs (nI (i + 2)).toNatClampNeg), .int (xs (nI (i + 3)).toNatClampNeg)]) (rest := []) hx hb hml hown hg (c_X2_years l D cI cB aS a pl n st ik td nd nh bs ktd knd knh kbs pg kd ag pa bo dm dn hh hn kag kpa kbo kdm kdn khh khn wb ps ty (xs (nI (i + 1)).toNatClampNeg) (xs (nI (i + 2)).toNatClampNeg) (xs (nI (i + 3)).toNatClampNeg) ((hDX _ XW_addr).weaken (fun _ _ _ _ => trivial)) hn6) gm_337 vf_X2_years ⟨Nat.le_of_ble_eq_true rfl, Nat.le_of_ble_eq_true rfl⟩ ⟨rfl, rfl⟩ hc (RP.preV hK hPX (q0 := 0) (ci := 2) XW_g0 rfl) rfl hl.1 rfl (Nat.le_of_ble_eq_true rfl) dL_law_597 hS (inW_all (hDX _ XW_addr)) (fun r_1 u_1 H1 locs1 hpo_1 hP1 hk1 hS1 => ?_)
  have hPM := wkept hPM (fun r h1 h2 => hAP _ _ XW_addr MW_addr r h2 h1) hk1
  clear hk1
  have hS := hS1
  have hPX : va_P D vwCl (XW cI a pl n st ik td nd nh bs ktd knd knh kbs pg kd ag pa bo dm dn hh hn kag kpa kbo kdm kdn khh khn u_1 ps ty) H1 := hP1
  clear hP1
  refine lv_aload_n hx hb dL_law_600 rfl (lv_at hl 1 rfl) ?_
  refine lv_aload_n hx hb dL_law_601 rfl (lv_at hl 3 rfl) ?_
  refine lv_iload_n hx hb dL_law_602 rfl (lv_at hl 0 rfl) ?_
  refine lv_iconst (v := nI 1) hx hb dL_law_603 (by decide) ?_
  refine nv_iadd hx hb dL_law_604 ?_
  refine va_sld hx hb hX hbl hbA hS (pk_in (i + 1) L (by omega)) dL_law_605 ?_
  refine lv_aload_n hx hb dL_law_606 rfl (lv_at hl 3 rfl) ?_
  refine lv_iload_n hx hb dL_law_607 rfl (lv_at hl 0 rfl) ?_
  refine lv_iconst (v := nI 2) hx hb dL_law_608 (by decide) ?_
  refine nv_iadd hx hb dL_law_609 ?_
  refine va_sld hx hb hX hbl hbA hS (pk_in (i + 2) L (by omega)) dL_law_610 ?_
  refine lv_aload_n hx hb dL_law_611 rfl (lv_at hl 3 rfl) ?_
  refine lv_iload_n hx hb dL_law_612 rfl (lv_at hl 0 rfl) ?_
  refine lv_iconst (v := nI 3) hx hb dL_law_613 (by decide) ?_
  refine nv_iadd hx hb dL_law_614 ?_
  refine va_sld hx hb hX hbl hbA hS (pk_in (i + 3) L (by omega)) dL_law_615 ?_
  refine wrVi (As := [.int (xs (nI (i + 1)).toNatClampNeg), .int (xs (nI (i + 2)).toNatClampNeg), .int (xs (nI (i + 3)).toNatClampNeg)]) (rest := [.int r_1]) hx hb hml hown hg (c_X3_years l D cI cB aS b st n td nd nh pl bs kd ag bo2 pa dm dn hh hn pg sv sd ik2 ks ktd knd knh kbs kag kbo2 kpa kdm kdn khh khn hf (xs (nI (i + 1)).toNatClampNeg) (xs (nI (i + 2)).toNatClampNeg) (xs (nI (i + 3)).toNatClampNeg) ((hDM _ MW_addr).weaken (fun _ _ _ _ => trivial)) hn6) gm_632 vf_X3_years ⟨Nat.le_of_ble_eq_true rfl, Nat.le_of_ble_eq_true rfl⟩ ⟨rfl, rfl⟩ hc (RP.preV hK hPM (q0 := 0) (ci := 3) MW_g0 rfl) rfl hl.1 rfl (Nat.le_of_ble_eq_true rfl) dL_law_616 hS (inW_all (hDM _ MW_addr)) (fun r_2 u_2 H2 locs2 hpo_2 hP2 hk2 hS2 => ?_)
  have hPX := wkept hPX (fun r h1 h2 => hAP _ _ XW_addr MW_addr r h1 h2) hk2
  clear hk2
  have hS := hS2
  have hPM : va_P D vwCl (MW cI cB b st n td nd nh pl bs kd ag bo2 pa dm dn hh hn pg u_2.1 u_2.2 ik2 ks ktd knd knh kbs kag kbo2 kpa kdm kdn khh khn hf) H2 := hP2
  refine lv_icmp_eq (tgt := 687) hx hb dL_law_619 (by decide) (fun _ => ?_) (fun h9 => absurd (hpo_1.trans hpo_2.symm) h9)
  exact kk _ _ (lJ.of hPX hPM hS (by omega) hI)
theorem vf_X2_image : vfacts RX2 yX2_image cX2_image 1 (some .int) 0 := ⟨⟨rfl, by decide +kernel, by decide +kernel, by decide +kernel⟩, gm_355, gm_356, gm_2, gm_357⟩
theorem vf_X3_image : vfacts RX3 yX3_image cX3_image 2 (some .int) 0 := ⟨⟨rfl, by decide +kernel, by decide +kernel, by decide +kernel⟩, gm_647, gm_648, gm_5, gm_649⟩
set_option maxRecDepth 100000 in
set_option maxHeartbeats 4000000 in
theorem law_image {p : Program} {l : Launch} {e : Env} {s : State} {m : MethodId} {args : Array Value} {below : List Frame} {meth : Method} {c : Code} {D : va_G} {cI cB : ClassId} {aS aV : Nat} {a b : Nat → Nat} {q L : Nat} {xs : Nat → Int32} {cells slots : Nat} {Q : State → Prop} (C : lC p s m c args D cI cB aS aV a b q L xs) (hc : cells ≤ room_1.cells ∧ slots ≤ room_1.slots) {i : Nat} (hi : i + 4 ≤ L) {H : Heap} {locs : List Loc} (J : lJ D cI cB a b s i H locs) {ls : Array Slot} (hl : lv_has ls 4 [(3, .int (nI i)), (2, .ref (b 0)), (1, .ref (a 0)), (0, .ref q)]) (kk : ∀ (H : Heap) (locs : List Loc), lJ D cI cB a b s (i + 1) H locs → W p l e room_1 s m args below meth c H locs cells slots Q (F0 m 687 ls [])) : W p l e room_1 s m args below meth c H locs cells slots Q (F0 m 624 ls []) := by
  obtain ⟨hx, hb, hml, hown, hg, hK, hE0, hX, hbl, hL, hDX, hDM, hAP⟩ := C
  obtain ⟨pl, n, st, ik, td, nd, nh, bs, ktd, knd, knh, kbs, pg, kd, ag, pa, bo, dm, dn, hh, hn, kag, kpa, kbo, kdm, kdn, khh, khn, wb, ps, ty, bo2, kbo2, sv, sd, ik2, ks, hf, hst, hI, hPX, hPM, hS⟩ := J
  have hbA : ¬ (fun r : Nat => s.heap.size ≤ r) q := Nat.not_le.mpr hbl
  obtain ⟨hn6, qpl, qpg, hks, ⟨qt, qnd, qnh, qhh, qok⟩, hbo, hik, hkp⟩ := id hI
  refine lv_aload_n hx hb dL_law_624 rfl (lv_at hl 2 rfl) ?_
  refine wrVi (As := []) (rest := []) hx hb hml hown hg (c_X2_image l D cI cB aS a pl n st ik td nd nh bs ktd knd knh kbs pg kd ag pa bo dm dn hh hn kag kpa kbo kdm kdn khh khn wb ps ty ((hDX _ XW_addr).weaken (fun _ _ _ _ => trivial)) hn6) gm_354 vf_X2_image ⟨Nat.le_of_ble_eq_true rfl, Nat.le_of_ble_eq_true rfl⟩ ⟨rfl, rfl⟩ hc (RP.preV hK hPX (q0 := 0) (ci := 2) XW_g0 rfl) rfl hl.1 rfl (Nat.le_of_ble_eq_true rfl) dL_law_625 hS (inW_all (hDX _ XW_addr)) (fun r_1 u_1 H1 locs1 hpo_1 hP1 hk1 hS1 => ?_)
  have hPM := wkept hPM (fun r h1 h2 => hAP _ _ XW_addr MW_addr r h2 h1) hk1
  clear hk1
  have hS := hS1
  rcases hpo_1 with ⟨so1, er_1, eu_1⟩ | ⟨so1, er_1, eu_1⟩
  · subst eu_1
    have hPX : va_P D vwCl (XW cI a pl n st (nI 1) td nd nh bs td nd nh bs pg kd ag pa bo dm dn hh hn ag pa bo dm dn hh hn wb ps ty) H1 := hP1
    clear hP1
    refine lv_aload_n hx hb dL_law_628 rfl (lv_at hl 1 rfl) ?_
    refine wrVi (As := []) (rest := [.int r_1]) hx hb hml hown hg (c_X3_image l D cI cB aS b st n td nd nh pl bs kd ag bo2 pa dm dn hh hn pg sv sd ik2 ks ktd knd knh kbs kag kbo2 kpa kdm kdn khh khn hf ((hDM _ MW_addr).weaken (fun _ _ _ _ => trivial)) hn6) gm_646 vf_X3_image ⟨Nat.le_of_ble_eq_true rfl, Nat.le_of_ble_eq_true rfl⟩ ⟨rfl, rfl⟩ hc (RP.preV hK hPM (q0 := 0) (ci := 3) MW_g0 rfl) rfl hl.1 rfl (Nat.le_of_ble_eq_true rfl) dL_law_629 hS (inW_all (hDM _ MW_addr)) (fun r_2 u_2 H2 locs2 hpo_2 hP2 hk2 hS2 => ?_)
    have hPX := wkept hPX (fun r h1 h2 => hAP _ _ XW_addr MW_addr r h1 h2) hk2
    clear hk2
    have hS := hS2
    rcases hpo_2 with ⟨so2, er_2, eu_2⟩ | ⟨so2, er_2, eu_2⟩
    · subst eu_2
      have hPM : va_P D vwCl (MW cI cB b st n td nd nh pl bs kd ag bo2 pa dm dn hh hn pg sv sd (nI 1) st td nd nh bs ag bo2 pa dm dn hh hn hf) H2 := hP2
      refine lv_icmp_eq (tgt := 687) hx hb dL_law_632 (by decide) (fun _ => ?_) (fun h9 => absurd (er_1.trans er_2.symm) h9)
      exact kk _ _ (lJ.of hPX hPM hS (by omega) hI.image)
    · exact absurd so2 so1
  · subst eu_1
    have hPX : va_P D vwCl (XW cI a pl n st ik td nd nh bs ktd knd knh kbs pg kd ag pa bo dm dn hh hn kag kpa kbo kdm kdn khh khn wb ps ty) H1 := hP1
    clear hP1
    refine lv_aload_n hx hb dL_law_628 rfl (lv_at hl 1 rfl) ?_
    refine wrVi (As := []) (rest := [.int r_1]) hx hb hml hown hg (c_X3_image l D cI cB aS b st n td nd nh pl bs kd ag bo2 pa dm dn hh hn pg sv sd ik2 ks ktd knd knh kbs kag kbo2 kpa kdm kdn khh khn hf ((hDM _ MW_addr).weaken (fun _ _ _ _ => trivial)) hn6) gm_646 vf_X3_image ⟨Nat.le_of_ble_eq_true rfl, Nat.le_of_ble_eq_true rfl⟩ ⟨rfl, rfl⟩ hc (RP.preV hK hPM (q0 := 0) (ci := 3) MW_g0 rfl) rfl hl.1 rfl (Nat.le_of_ble_eq_true rfl) dL_law_629 hS (inW_all (hDM _ MW_addr)) (fun r_2 u_2 H2 locs2 hpo_2 hP2 hk2 hS2 => ?_)
    have hPX := wkept hPX (fun r h1 h2 => hAP _ _ XW_addr MW_addr r h1 h2) hk2
    clear hk2
    have hS := hS2
    rcases hpo_2 with ⟨so2, er_2, eu_2⟩ | ⟨so2, er_2, eu_2⟩
    · exact absurd so1 so2
    · subst eu_2
      have hPM : va_P D vwCl (MW cI cB b st n td nd nh pl bs kd ag bo2 pa dm dn hh hn pg sv sd ik2 ks ktd knd knh kbs kag kbo2 kpa kdm kdn khh khn hf) H2 := hP2
      refine lv_icmp_eq (tgt := 687) hx hb dL_law_632 (by decide) (fun _ => ?_) (fun h9 => absurd (er_1.trans er_2.symm) h9)
      exact kk _ _ (lJ.of hPX hPM hS (by omega) hI)
theorem vf_X2_restore : vfacts RX2 yX2_restore cX2_restore 1 (some .int) 0 := ⟨⟨rfl, by decide +kernel, by decide +kernel, by decide +kernel⟩, gm_364, gm_365, gm_2, gm_366⟩
theorem vf_X3_restore : vfacts RX3 yX3_restore cX3_restore 2 (some .int) 0 := ⟨⟨rfl, by decide +kernel, by decide +kernel, by decide +kernel⟩, gm_651, gm_652, gm_5, gm_653⟩
set_option maxRecDepth 100000 in
set_option maxHeartbeats 4000000 in
theorem law_restore {p : Program} {l : Launch} {e : Env} {s : State} {m : MethodId} {args : Array Value} {below : List Frame} {meth : Method} {c : Code} {D : va_G} {cI cB : ClassId} {aS aV : Nat} {a b : Nat → Nat} {q L : Nat} {xs : Nat → Int32} {cells slots : Nat} {Q : State → Prop} (C : lC p s m c args D cI cB aS aV a b q L xs) (hc : cells ≤ room_1.cells ∧ slots ≤ room_1.slots) {i : Nat} (hi : i + 4 ≤ L) {H : Heap} {locs : List Loc} (J : lJ D cI cB a b s i H locs) {ls : Array Slot} (hl : lv_has ls 4 [(3, .int (nI i)), (2, .ref (b 0)), (1, .ref (a 0)), (0, .ref q)]) (kk : ∀ (H : Heap) (locs : List Loc), lJ D cI cB a b s (i + 1) H locs → W p l e room_1 s m args below meth c H locs cells slots Q (F0 m 687 ls [])) : W p l e room_1 s m args below meth c H locs cells slots Q (F0 m 637 ls []) := by
  obtain ⟨hx, hb, hml, hown, hg, hK, hE0, hX, hbl, hL, hDX, hDM, hAP⟩ := C
  obtain ⟨pl, n, st, ik, td, nd, nh, bs, ktd, knd, knh, kbs, pg, kd, ag, pa, bo, dm, dn, hh, hn, kag, kpa, kbo, kdm, kdn, khh, khn, wb, ps, ty, bo2, kbo2, sv, sd, ik2, ks, hf, hst, hI, hPX, hPM, hS⟩ := J
  have hbA : ¬ (fun r : Nat => s.heap.size ≤ r) q := Nat.not_le.mpr hbl
  obtain ⟨hn6, qpl, qpg, hks, ⟨qt, qnd, qnh, qhh, qok⟩, hbo, hik, hkp⟩ := id hI
  refine lv_aload_n hx hb dL_law_637 rfl (lv_at hl 2 rfl) ?_
  refine wrVi (As := []) (rest := []) hx hb hml hown hg (c_X2_restore l D cI cB aS a pl n st ik td nd nh bs ktd knd knh kbs pg kd ag pa bo dm dn hh hn kag kpa kbo kdm kdn khh khn wb ps ty ((hDX _ XW_addr).weaken (fun _ _ _ _ => trivial))) gm_363 vf_X2_restore ⟨Nat.le_of_ble_eq_true rfl, Nat.le_of_ble_eq_true rfl⟩ ⟨rfl, rfl⟩ hc (RP.preV hK hPX (q0 := 0) (ci := 2) XW_g0 rfl) rfl hl.1 rfl (Nat.le_of_ble_eq_true rfl) dL_law_638 hS (inW_all (hDX _ XW_addr)) (fun r_1 u_1 H1 locs1 hpo_1 hP1 hk1 hS1 => ?_)
  have hPM := wkept hPM (fun r h1 h2 => hAP _ _ XW_addr MW_addr r h2 h1) hk1
  clear hk1
  have hS := hS1
  rcases hpo_1 with ⟨so1, er_1, eu_1⟩ | ⟨so1, er_1, eu_1⟩
  · subst eu_1
    have hPX : va_P D vwCl (XW cI a pl n st ik ktd knd knh kbs ktd knd knh kbs pg kd kag kpa kbo kdm kdn khh khn kag kpa kbo kdm kdn khh khn wb ps ty) H1 := hP1
    clear hP1
    refine lv_aload_n hx hb dL_law_641 rfl (lv_at hl 1 rfl) ?_
    refine wrVi (As := []) (rest := [.int r_1]) hx hb hml hown hg (c_X3_restore l D cI cB aS b st n td nd nh pl bs kd ag bo2 pa dm dn hh hn pg sv sd ik2 ks ktd knd knh kbs kag kbo2 kpa kdm kdn khh khn hf ((hDM _ MW_addr).weaken (fun _ _ _ _ => trivial)) (by omega) (by omega)) gm_650 vf_X3_restore ⟨Nat.le_of_ble_eq_true rfl, Nat.le_of_ble_eq_true rfl⟩ ⟨rfl, rfl⟩ hc (RP.preV hK hPM (q0 := 0) (ci := 3) MW_g0 rfl) rfl hl.1 rfl (Nat.le_of_ble_eq_true rfl) dL_law_642 hS (inW_all (hDM _ MW_addr)) (fun r_2 u_2 H2 locs2 hpo_2 hP2 hk2 hS2 => ?_)
    have hPX := wkept hPX (fun r h1 h2 => hAP _ _ XW_addr MW_addr r h1 h2) hk2
    clear hk2
    have hS := hS2
    rcases hpo_2 with ⟨so2, er_2, eu_2⟩ | ⟨so2, er_2, eu_2⟩
    · subst eu_2
      have hPM : va_P D vwCl (MW cI cB b st n ktd knd knh pl kbs kd kag kbo2 kpa kdm kdn khh khn pg sv sd ik2 ks ktd knd knh kbs kag kbo2 kpa kdm kdn khh khn hf) H2 := hP2
      refine lv_icmp_eq (tgt := 687) hx hb dL_law_645 (by decide) (fun _ => ?_) (fun h9 => absurd (er_1.trans er_2.symm) h9)
      exact kk _ _ (lJ.of hPX hPM hS (by omega) (hI.restore so1))
    · exact absurd (hik.mp so1) so2
  · subst eu_1
    have hPX : va_P D vwCl (XW cI a pl n st ik td nd nh bs ktd knd knh kbs pg kd ag pa bo dm dn hh hn kag kpa kbo kdm kdn khh khn wb ps ty) H1 := hP1
    clear hP1
    refine lv_aload_n hx hb dL_law_641 rfl (lv_at hl 1 rfl) ?_
    refine wrVi (As := []) (rest := [.int r_1]) hx hb hml hown hg (c_X3_restore l D cI cB aS b st n td nd nh pl bs kd ag bo2 pa dm dn hh hn pg sv sd ik2 ks ktd knd knh kbs kag kbo2 kpa kdm kdn khh khn hf ((hDM _ MW_addr).weaken (fun _ _ _ _ => trivial)) (by omega) (by omega)) gm_650 vf_X3_restore ⟨Nat.le_of_ble_eq_true rfl, Nat.le_of_ble_eq_true rfl⟩ ⟨rfl, rfl⟩ hc (RP.preV hK hPM (q0 := 0) (ci := 3) MW_g0 rfl) rfl hl.1 rfl (Nat.le_of_ble_eq_true rfl) dL_law_642 hS (inW_all (hDM _ MW_addr)) (fun r_2 u_2 H2 locs2 hpo_2 hP2 hk2 hS2 => ?_)
    have hPX := wkept hPX (fun r h1 h2 => hAP _ _ XW_addr MW_addr r h1 h2) hk2
    clear hk2
    have hS := hS2
    rcases hpo_2 with ⟨so2, er_2, eu_2⟩ | ⟨so2, er_2, eu_2⟩
    · exact absurd so1 (hik.mpr so2)
    · subst eu_2
      have hPM : va_P D vwCl (MW cI cB b st n td nd nh pl bs kd ag bo2 pa dm dn hh hn pg sv sd ik2 ks ktd knd knh kbs kag kbo2 kpa kdm kdn khh khn hf) H2 := hP2
      refine lv_icmp_eq (tgt := 687) hx hb dL_law_645 (by decide) (fun _ => ?_) (fun h9 => absurd (er_1.trans er_2.symm) h9)
      exact kk _ _ (lJ.of hPX hPM hS (by omega) hI)
theorem vf_X3_count : vfacts RX3 yX3_count cX3_count 2 (some .int) 1 := ⟨⟨rfl, by decide +kernel, by decide +kernel, by decide +kernel⟩, gm_655, gm_656, gm_5, gm_657⟩
set_option maxRecDepth 100000 in
set_option maxHeartbeats 4000000 in
theorem law_count {p : Program} {l : Launch} {e : Env} {s : State} {m : MethodId} {args : Array Value} {below : List Frame} {meth : Method} {c : Code} {D : va_G} {cI cB : ClassId} {aS aV : Nat} {a b : Nat → Nat} {q L : Nat} {xs : Nat → Int32} {cells slots : Nat} {Q : State → Prop} (C : lC p s m c args D cI cB aS aV a b q L xs) (hc : cells ≤ room_1.cells ∧ slots ≤ room_1.slots) {i : Nat} (hi : i + 4 ≤ L) {H : Heap} {locs : List Loc} (J : lJ D cI cB a b s i H locs) {ls : Array Slot} (hl : lv_has ls 4 [(3, .int (nI i)), (2, .ref (b 0)), (1, .ref (a 0)), (0, .ref q)]) (kk : ∀ (H : Heap) (locs : List Loc), lJ D cI cB a b s (i + 1) H locs → W p l e room_1 s m args below meth c H locs cells slots Q (F0 m 687 ls [])) : W p l e room_1 s m args below meth c H locs cells slots Q (F0 m 650 ls []) := by
  obtain ⟨hx, hb, hml, hown, hg, hK, hE0, hX, hbl, hL, hDX, hDM, hAP⟩ := C
  obtain ⟨pl, n, st, ik, td, nd, nh, bs, ktd, knd, knh, kbs, pg, kd, ag, pa, bo, dm, dn, hh, hn, kag, kpa, kbo, kdm, kdn, khh, khn, wb, ps, ty, bo2, kbo2, sv, sd, ik2, ks, hf, hst, hI, hPX, hPM, hS⟩ := J
  have hbA : ¬ (fun r : Nat => s.heap.size ≤ r) q := Nat.not_le.mpr hbl
  obtain ⟨hn6, qpl, qpg, hks, ⟨qt, qnd, qnh, qhh, qok⟩, hbo, hik, hkp⟩ := id hI
  refine lv_aload_n hx hb dL_law_650 rfl (lv_at hl 2 rfl) ?_
  refine lv_aload_n hx hb dL_law_651 rfl (lv_at hl 3 rfl) ?_
  refine lv_iload_n hx hb dL_law_652 rfl (lv_at hl 0 rfl) ?_
  refine lv_iconst (v := nI 1) hx hb dL_law_653 (by decide) ?_
  refine nv_iadd hx hb dL_law_654 ?_
  refine va_sld hx hb hX hbl hbA hS (pk_in (i + 1) L (by omega)) dL_law_655 ?_
  refine rdV (As := [.int (xs (nI (i + 1)).toNatClampNeg)]) (rest := []) hx hb hml hown hg (c_X2_count l D cI cB aS a pl n st ik td nd nh bs ktd knd knh kbs pg kd ag pa bo dm dn hh hn kag kpa kbo kdm kdn khh khn wb ps ty (xs (nI (i + 1)).toNatClampNeg) hn6 qnd qt) gm_367 vf_X2_count ⟨Nat.le_of_ble_eq_true rfl, Nat.le_of_ble_eq_true rfl⟩ ⟨rfl, rfl⟩ hc (RP.preV hK hPX (q0 := 0) (ci := 2) XW_g0 rfl) rfl hl.1 rfl (Nat.le_of_ble_eq_true rfl) dL_law_656 ?_
  refine lv_aload_n hx hb dL_law_659 rfl (lv_at hl 1 rfl) ?_
  refine lv_aload_n hx hb dL_law_660 rfl (lv_at hl 3 rfl) ?_
  refine lv_iload_n hx hb dL_law_661 rfl (lv_at hl 0 rfl) ?_
  refine lv_iconst (v := nI 1) hx hb dL_law_662 (by decide) ?_
  refine nv_iadd hx hb dL_law_663 ?_
  refine va_sld hx hb hX hbl hbA hS (pk_in (i + 1) L (by omega)) dL_law_664 ?_
  refine rdV (As := [.int (xs (nI (i + 1)).toNatClampNeg)]) (rest := [.int _]) hx hb hml hown hg (c_X3_count l D cI cB aS b st n td nd nh pl bs kd ag bo2 pa dm dn hh hn pg sv sd ik2 ks ktd knd knh kbs kag kbo2 kpa kdm kdn khh khn hf (xs (nI (i + 1)).toNatClampNeg) hn6 qnd qt) gm_654 vf_X3_count ⟨Nat.le_of_ble_eq_true rfl, Nat.le_of_ble_eq_true rfl⟩ ⟨rfl, rfl⟩ hc (RP.preV hK hPM (q0 := 0) (ci := 3) MW_g0 rfl) rfl hl.1 rfl (Nat.le_of_ble_eq_true rfl) dL_law_665 ?_
  refine lv_icmp_eq (tgt := 687) hx hb dL_law_668 (by decide) (fun _ => ?_) (fun h9 => absurd (rfl) h9)
  exact kk _ _ (lJ.of hPX hPM hS (by omega) hI)
theorem vf_X2_digest : vfacts RX2 yX2_digest cX2_digest 4 (some .long) 0 := ⟨⟨rfl, by decide +kernel, by decide +kernel, by decide +kernel⟩, gm_378, gm_379, gm_2, gm_380⟩
theorem vf_X3_digest : vfacts RX3 yX3_digest cX3_digest 2 (some .long) 0 := ⟨⟨rfl, by decide +kernel, by decide +kernel, by decide +kernel⟩, gm_668, gm_669, gm_5, gm_670⟩
set_option maxRecDepth 100000 in
set_option maxHeartbeats 4000000 in
theorem law_digest {p : Program} {l : Launch} {e : Env} {s : State} {m : MethodId} {args : Array Value} {below : List Frame} {meth : Method} {c : Code} {D : va_G} {cI cB : ClassId} {aS aV : Nat} {a b : Nat → Nat} {q L : Nat} {xs : Nat → Int32} {cells slots : Nat} {Q : State → Prop} (C : lC p s m c args D cI cB aS aV a b q L xs) (hc : cells ≤ room_1.cells ∧ slots ≤ room_1.slots) {i : Nat} (hi : i + 4 ≤ L) {H : Heap} {locs : List Loc} (J : lJ D cI cB a b s i H locs) {ls : Array Slot} (hl : lv_has ls 4 [(3, .int (nI i)), (2, .ref (b 0)), (1, .ref (a 0)), (0, .ref q)]) (kk : ∀ (H : Heap) (locs : List Loc), lJ D cI cB a b s (i + 1) H locs → W p l e room_1 s m args below meth c H locs cells slots Q (F0 m 687 ls [])) : W p l e room_1 s m args below meth c H locs cells slots Q (F0 m 673 ls []) := by
  obtain ⟨hx, hb, hml, hown, hg, hK, hE0, hX, hbl, hL, hDX, hDM, hAP⟩ := C
  obtain ⟨pl, n, st, ik, td, nd, nh, bs, ktd, knd, knh, kbs, pg, kd, ag, pa, bo, dm, dn, hh, hn, kag, kpa, kbo, kdm, kdn, khh, khn, wb, ps, ty, bo2, kbo2, sv, sd, ik2, ks, hf, hst, hI, hPX, hPM, hS⟩ := J
  have hbA : ¬ (fun r : Nat => s.heap.size ≤ r) q := Nat.not_le.mpr hbl
  obtain ⟨hn6, qpl, qpg, hks, ⟨qt, qnd, qnh, qhh, qok⟩, hbo, hik, hkp⟩ := id hI
  refine lv_aload_n hx hb dL_law_673 rfl (lv_at hl 2 rfl) ?_
  refine wrVl (As := []) (rest := []) hx hb hml hown hg (c_X2_digest l D cI cB aS a pl n st ik td nd nh bs ktd knd knh kbs pg kd ag pa bo dm dn hh hn kag kpa kbo kdm kdn khh khn wb ps ty ((hDX _ XW_addr).weaken (fun _ _ _ _ => trivial)) hn6 qt qnh qhh qnd qpl (ok_v40 qok qt)) gm_377 vf_X2_digest ⟨Nat.le_of_ble_eq_true rfl, Nat.le_of_ble_eq_true rfl⟩ ⟨rfl, rfl⟩ hc (RP.preV hK hPX (q0 := 0) (ci := 2) XW_g0 rfl) rfl hl.1 rfl (Nat.le_of_ble_eq_true rfl) dL_law_674 hS (inW_all (hDX _ XW_addr)) (fun r_1 u_1 H1 locs1 hpo_1 hP1 hk1 hS1 => ?_)
  have hPM := wkept hPM (fun r h1 h2 => hAP _ _ XW_addr MW_addr r h2 h1) hk1
  clear hk1
  have hS := hS1
  have hPX : va_P D vwCl (XW cI a pl n st ik td nd nh bs ktd knd knh kbs pg kd ag pa bo dm dn hh hn kag kpa kbo kdm kdn khh khn u_1.1 u_1.2.1 u_1.2.2) H1 := hP1
  clear hP1
  refine lv_aload_n hx hb dL_law_677 rfl (lv_at hl 1 rfl) ?_
  refine wrVl (As := []) (rest := [.long r_1]) hx hb hml hown hg (c_X3_digest l D cI cB aS b st n td nd nh pl bs kd ag bo2 pa dm dn hh hn pg sv sd ik2 ks ktd knd knh kbs kag kbo2 kpa kdm kdn khh khn hf ((hDM _ MW_addr).weaken (fun _ _ _ _ => trivial)) hn6 qt qnh qhh qnd qpl) gm_667 vf_X3_digest ⟨Nat.le_of_ble_eq_true rfl, Nat.le_of_ble_eq_true rfl⟩ ⟨rfl, rfl⟩ hc (RP.preV hK hPM (q0 := 0) (ci := 3) MW_g0 rfl) rfl hl.1 rfl (Nat.le_of_ble_eq_true rfl) dL_law_678 hS (inW_all (hDM _ MW_addr)) (fun r_2 u_2 H2 locs2 hpo_2 hP2 hk2 hS2 => ?_)
  have hPX := wkept hPX (fun r h1 h2 => hAP _ _ XW_addr MW_addr r h1 h2) hk2
  clear hk2
  have hS := hS2
  have hPM : va_P D vwCl (MW cI cB b st n td nd nh pl bs kd ag bo2 pa dm dn hh hn pg u_2.1 sd ik2 ks ktd knd knh kbs kag kbo2 kpa kdm kdn khh khn u_2.2) H2 := hP2
  refine W.lcmp hx hb dL_law_681 ?_
  have e_r : r_1 = r_2 := hpo_1.trans ((dgF_c hbo).trans hpo_2.symm)
  rw [e_r, lg_same]
  refine lv_if_eq (tgt := 687) hx hb dL_law_682 (by decide) (fun _ => ?_) (fun h9 => absurd rfl h9)
  exact kk _ _ (lJ.of hPX hPM hS (by omega) hI)
