theorem vf_X2_debt : vfacts RX2 yX2_debt cX2_debt 3 (some .int) 2 := ⟨⟨rfl, by decide +kernel, by decide +kernel, by decide +kernel⟩, gm_185, gm_186, gm_2, gm_187⟩
set_option maxRecDepth 100000 in
set_option maxHeartbeats 8000000 in
theorem law_debt {p : Program} {l : Launch} {e : Env} {s : State} {m : MethodId} {args : Array Value} {below : List Frame} {meth : Method} {c : Code} {D : va_G} {cI cB : ClassId} {aS aV : Nat} {A : Nat → Prop} {a y : Nat → Nat} {q L : Nat} {xs : Nat → Int32} {cells slots : Nat} {Q : State → Prop} (C : zC p s m c args D cI cB aS aV A a y q L xs) (hc : cells ≤ room_1.cells ∧ slots ≤ room_1.slots) {trip n nd t x : Nat} {owed : Int32} (ht : t < 22) (qx : x < 2147483648) {H : Heap} {locs : List Loc} {ls : Array Slot} (J : zJ D cI cB A a y s n nd owed H locs) (hl : lv_has ls 25 [(0, .ref q), (1, .ref (a 0)), (2, .ref (y 0)), (3, .ref (y 1)), (4, .ref (y 2)), (5, .ref (y 3)), (6, .ref (y 4)), (7, .int (nI trip)), (8, .int (nI (29 * trip))), (9, .int (nI n)), (10, .int owed), (11, .int (nI nd)), (12, .int (nI t)), (13, .int (nI x))]) (kk : ∀ (nd : Nat) (owed : Int32) (H : Heap) (locs : List Loc) (ls : Array Slot), zJ D cI cB A a y s n nd owed H locs → lv_has ls 25 [(0, .ref q), (1, .ref (a 0)), (2, .ref (y 0)), (3, .ref (y 1)), (4, .ref (y 2)), (5, .ref (y 3)), (6, .ref (y 4)), (7, .int (nI trip)), (8, .int (nI (29 * trip))), (9, .int (nI n)), (10, .int owed), (11, .int (nI nd)), (12, .int (nI t)), (13, .int (nI x))] → W p l e room_1 s m args below meth c H locs cells slots Q (F0 m 225 ls [])) : W p l e room_1 s m args below meth c H locs cells slots Q (F0 m 131 ls []) := by
  obtain ⟨hx, hb, hml, hown, hg, hK, hE, hX, hbl, hbA, hL, hDZ⟩ := C
  obtain ⟨st, ik, td, nh, bs, ktd, knd, knh, kbs, pg, kd, ag, pa, bo, dm, dn, hh, hn, kag, kpa, kbo, kdm, kdn, khh, khn, wb, ps, ty, wa, wc, ga, tt, ow, hzI, hzD, how, hP, hS⟩ := J
  obtain ⟨h2n, hn6, qt, hw0, hw1, hw2, hho, hg9⟩ := id hzI
  have qnd := hzD.1
  have hD : va_D A (ZW cI cB a y 0 n st ik td nd nh bs ktd knd knh kbs pg kd ag pa bo dm dn hh hn kag kpa kbo kdm kdn khh khn wb ps ty wa wc ga tt ow) := hDZ _ ZW_addr
  refine lv_iload hx hb dL_law_131 (lv_at hl 12 rfl) ?_
  refine lv_iconst (v := (nI 4)) hx hb dL_law_133 (by decide) ?_
  refine nv_irem hx hb dL_law_134 (by omega) (by omega) (by omega) ?_
  refine nv_if_ne (tgt := 225) hx hb dL_law_135 (by omega) (by decide) (fun c_135 => ?_) (fun c_135 => ?_)
  · skip
    exact kk nd owed _ _ _ (zJ.of hzI hzD how hP hS) (lv_sub hl [0, 1, 2, 3, 4, 5, 6, 7, 8, 9, 10, 11, 12, 13] rfl)
  · skip
    refine lv_iconst (v := (nI 1)) hx hb dL_law_138 (by decide) ?_
    refine lv_iload hx hb dL_law_139 (lv_at hl 13 rfl) ?_
    refine lv_sipush (v := (nI 512)) hx hb dL_law_141 (by decide) ?_
    refine nv_idiv hx hb dL_law_144 (by omega) (by omega) (by omega) ?_
    refine lv_bipush (v := (nI 9)) hx hb dL_law_145 (by decide) ?_
    refine nv_irem hx hb dL_law_147 (by omega) (by omega) (by omega) ?_
    refine nv_iadd hx hb dL_law_148 ?_
    obtain ⟨m9, e_m9⟩ : ∃ m9, m9 = 1 + x / 512 % 9 := ⟨_, rfl⟩
    have hm9 : 1 ≤ m9 ∧ m9 ≤ 9 := by omega
    rw [← e_m9]
    refine lv_istore (lv' := [(14, .int (nI m9)), (0, .ref q), (1, .ref (a 0)), (2, .ref (y 0)), (3, .ref (y 1)), (4, .ref (y 2)), (5, .ref (y 3)), (6, .ref (y 4)), (7, .int (nI trip)), (8, .int (nI (29 * trip))), (9, .int (nI n)), (10, .int owed), (11, .int (nI nd)), (12, .int (nI t)), (13, .int (nI x))]) hx hb dL_law_149 hl (by decide) rfl (fun ls hl => ?_)
    refine lv_aload_n hx hb dL_law_151 rfl (lv_at hl 2 rfl) ?_
    refine lv_iload hx hb dL_law_152 (lv_at hl 0 rfl) ?_
    refine lv_iload hx hb dL_law_154 (lv_at hl 14 rfl) ?_
    refine lv_sipush (v := (nI 8192)) hx hb dL_law_156 (by decide) ?_
    refine nv_idiv hx hb dL_law_159 (by omega) (by omega) (by omega) ?_
    refine lv_bipush (v := (nI 13)) hx hb dL_law_160 (by decide) ?_
    refine nv_irem hx hb dL_law_162 (by omega) (by omega) (by omega) ?_
    by_cases hnd : nd = 6
    · skip
      obtain ⟨d9, e_d9⟩ : ∃ d9, d9 = x / 8192 % 13 := ⟨_, rfl⟩
      have hd9 : d9 ≤ 12 := by omega
      rw [← e_d9]
      have hP_1 : va_P D vwCl (XW cI a 0 n st ik td nd nh bs ktd knd knh kbs pg kd ag pa bo dm dn hh hn kag kpa kbo kdm kdn khh khn wb ps ty) _ := P_X hP
      refine wrVi (As := [.int (nI m9), .int (nI d9)]) (rest := []) hx hb hml hown hg (c_X2_debt l D cI cB aS _ 0 n st ik td nd nh bs ktd knd knh kbs pg kd ag pa bo dm dn hh hn kag kpa kbo kdm kdn khh khn wb ps ty (nI m9) (nI d9) ((D_X hD).weaken (fun _ _ _ _ => trivial)) (by first | assumption | omega) (by first | assumption | omega)) gm_184 vf_X2_debt ⟨Nat.le_of_ble_eq_true rfl, Nat.le_of_ble_eq_true rfl⟩ ⟨rfl, rfl⟩ hc (RP.preV hK hP_1 (q0 := 0) (ci := 2) XW_g0 rfl) rfl hl.1 rfl (Nat.le_of_ble_eq_true rfl) dL_law_163 hS (inW_all (D_X hD)) (fun r_2 u_2 H1 locs hpo_2 hP1 hk1 hS => ?_)
      have ef_2 : debF n nd dm dn (nI m9) (nI d9) = ((-104), dm, dn, nd) := deb_1 (by omega) hm9.1 hm9.2 hd9 hnd
      have er_2 : r_2 = (-104) := congrArg Prod.fst (hpo_2.trans (ef_2))
      have eu_2 : u_2 = (dm, dn, nd) := congrArg Prod.snd (hpo_2.trans (ef_2))
      subst eu_2
      subst er_2
      have hP : va_P D vwCl (ZW cI cB a y 0 n st ik td nd nh bs ktd knd knh kbs pg kd ag pa bo dm dn hh hn kag kpa kbo kdm kdn khh khn wb ps ty wa wc ga tt ow) H1 := zx_join hP hD hP1 hk1
      have hD : va_D A (ZW cI cB a y 0 n st ik td nd nh bs ktd knd knh kbs pg kd ag pa bo dm dn hh hn kag kpa kbo kdm kdn khh khn wb ps ty wa wc ga tt ow) := hD.addr (ZW_addr.trans ZW_addr.symm)
      clear hP1 hk1
      generalize H1 = H at hP hS ⊢
      refine lv_iload hx hb dL_law_166 (lv_at hl 12 rfl) ?_
      refine lv_bipush (v := (nI 6)) hx hb dL_law_168 (by decide) ?_
      refine nv_icmp_ne (tgt := 178) hx hb dL_law_170 (by omega) (by omega) (by decide) (fun c_170 => ?_) (fun c_170 => ?_)
      · exact absurd hnd c_170
      · skip
        refine lv_bipush (v := (-104)) hx hb dL_law_173 (by decide) ?_
        refine lv_goto (tgt := 182) hx hb dL_law_175 (by decide) ?_
        refine lv_icmp_eq (tgt := 187) hx hb dL_law_182 (by decide) (fun c_182 => ?_) (fun c_182 => ?_)
        · skip
          refine lv_iload hx hb dL_law_187 (lv_at hl 12 rfl) ?_
          refine lv_bipush (v := (nI 6)) hx hb dL_law_189 (by decide) ?_
          refine nv_icmp_ge (tgt := 225) hx hb dL_law_191 (by omega) (by omega) (by decide) (fun c_191 => ?_) (fun c_191 => ?_)
          · skip
            exact kk nd owed _ _ _ (zJ.of hzI hzD how hP hS) (lv_sub hl [1, 2, 3, 4, 5, 6, 7, 8, 9, 10, 11, 12, 13, 14] rfl)
          · exact absurd c_191 (by omega)
        · exact absurd rfl c_182
    · skip
      obtain ⟨d9, e_d9⟩ : ∃ d9, d9 = x / 8192 % 13 := ⟨_, rfl⟩
      have hd9 : d9 ≤ 12 := by omega
      rw [← e_d9]
      have hP_3 : va_P D vwCl (XW cI a 0 n st ik td nd nh bs ktd knd knh kbs pg kd ag pa bo dm dn hh hn kag kpa kbo kdm kdn khh khn wb ps ty) _ := P_X hP
      refine wrVi (As := [.int (nI m9), .int (nI d9)]) (rest := []) hx hb hml hown hg (c_X2_debt l D cI cB aS _ 0 n st ik td nd nh bs ktd knd knh kbs pg kd ag pa bo dm dn hh hn kag kpa kbo kdm kdn khh khn wb ps ty (nI m9) (nI d9) ((D_X hD).weaken (fun _ _ _ _ => trivial)) (by first | assumption | omega) (by first | assumption | omega)) gm_184 vf_X2_debt ⟨Nat.le_of_ble_eq_true rfl, Nat.le_of_ble_eq_true rfl⟩ ⟨rfl, rfl⟩ hc (RP.preV hK hP_3 (q0 := 0) (ci := 2) XW_g0 rfl) rfl hl.1 rfl (Nat.le_of_ble_eq_true rfl) dL_law_163 hS (inW_all (D_X hD)) (fun r_4 u_4 H1 locs hpo_4 hP1 hk1 hS => ?_)
      have ef_4 : debF n nd dm dn (nI m9) (nI d9) = ((nI (nd + 1)), upd dm nd (nI m9), upd dn nd (nI d9), nd + 1) := deb_2 (by omega) hm9.1 hm9.2 hd9 hnd
      have er_4 : r_4 = (nI (nd + 1)) := congrArg Prod.fst (hpo_4.trans (ef_4))
      have eu_4 : u_4 = (upd dm nd (nI m9), upd dn nd (nI d9), nd + 1) := congrArg Prod.snd (hpo_4.trans (ef_4))
      subst eu_4
      subst er_4
      have hP : va_P D vwCl (ZW cI cB a y 0 n st ik td (nd + 1) nh bs ktd knd knh kbs pg kd ag pa bo (upd dm nd (nI m9)) (upd dn nd (nI d9)) hh hn kag kpa kbo kdm kdn khh khn wb ps ty wa wc ga tt ow) H1 := zx_join hP hD hP1 hk1
      have hD : va_D A (ZW cI cB a y 0 n st ik td (nd + 1) nh bs ktd knd knh kbs pg kd ag pa bo (upd dm nd (nI m9)) (upd dn nd (nI d9)) hh hn kag kpa kbo kdm kdn khh khn wb ps ty wa wc ga tt ow) := hD.addr (ZW_addr.trans ZW_addr.symm)
      clear hP1 hk1
      generalize H1 = H at hP hS ⊢
      refine lv_iload hx hb dL_law_166 (lv_at hl 12 rfl) ?_
      refine lv_bipush (v := (nI 6)) hx hb dL_law_168 (by decide) ?_
      refine nv_icmp_ne (tgt := 178) hx hb dL_law_170 (by omega) (by omega) (by decide) (fun c_170 => ?_) (fun c_170 => ?_)
      · skip
        refine lv_iload hx hb dL_law_178 (lv_at hl 12 rfl) ?_
        refine lv_iconst (v := (nI 1)) hx hb dL_law_180 (by decide) ?_
        refine nv_iadd hx hb dL_law_181 ?_
        refine nv_icmp_eq (tgt := 187) hx hb dL_law_182 (by omega) (by omega) (by decide) (fun c_182 => ?_) (fun c_182 => ?_)
        · skip
          refine lv_iload hx hb dL_law_187 (lv_at hl 12 rfl) ?_
          refine lv_bipush (v := (nI 6)) hx hb dL_law_189 (by decide) ?_
          refine nv_icmp_ge (tgt := 225) hx hb dL_law_191 (by omega) (by omega) (by decide) (fun c_191 => ?_) (fun c_191 => ?_)
          · exact absurd c_191 (by omega)
          · skip
            refine lv_iload hx hb dL_law_194 (lv_at hl 11 rfl) ?_
            refine lv_iload hx hb dL_law_196 (lv_at hl 0 rfl) ?_
            refine lv_iadd hx hb dL_law_198 ?_
            refine lv_istore (lv' := [(10, .int (owed + (nI m9))), (14, .int (nI m9)), (0, .ref q), (1, .ref (a 0)), (2, .ref (y 0)), (3, .ref (y 1)), (4, .ref (y 2)), (5, .ref (y 3)), (6, .ref (y 4)), (7, .int (nI trip)), (8, .int (nI (29 * trip))), (9, .int (nI n)), (11, .int (nI nd)), (12, .int (nI t)), (13, .int (nI x))]) hx hb dL_law_199 hl (by decide) rfl (fun ls hl => ?_)
            refine lv_aload hx hb dL_law_201 (lv_at hl 8 rfl) ?_
            refine lv_iload hx hb dL_law_203 (lv_at hl 12 rfl) ?_
            refine lv_iload hx hb dL_law_205 (lv_at hl 1 rfl) ?_
            refine nv_iast hx hb hK.1 hP hD hS 45 0 ZW_g45 rfl (by omega) (by omega) dL_law_207 (fun H locs hP hD hS => ?_)
            have hP : va_P D vwCl (ZW cI cB a y 0 n st ik td (nd + 1) nh bs ktd knd knh kbs pg kd ag pa bo (upd dm nd (nI m9)) (upd dn nd (nI d9)) hh hn kag kpa kbo kdm kdn khh khn wb ps ty wa wc ga tt (upd ow nd (nI m9))) H := P_eq hP ZW_s45
            have hD : va_D A (ZW cI cB a y 0 n st ik td (nd + 1) nh bs ktd knd knh kbs pg kd ag pa bo (upd dm nd (nI m9)) (upd dn nd (nI d9)) hh hn kag kpa kbo kdm kdn khh khn wb ps ty wa wc ga tt (upd ow nd (nI m9))) := D_eq hD ZW_s45
            refine lv_aload hx hb dL_law_208 (lv_at hl 7 rfl) ?_
            refine lv_iload hx hb dL_law_210 (lv_at hl 12 rfl) ?_
            refine lv_iload hx hb dL_law_212 (lv_at hl 14 rfl) ?_
            refine lv_sipush (v := (nI 8192)) hx hb dL_law_214 (by decide) ?_
            refine nv_idiv hx hb dL_law_217 (by omega) (by omega) (by omega) ?_
            refine lv_bipush (v := (nI 13)) hx hb dL_law_218 (by decide) ?_
            refine nv_irem hx hb dL_law_220 (by omega) (by omega) (by omega) ?_
            rw [← e_d9]
            refine nv_iast hx hb hK.1 hP hD hS 44 0 ZW_g44 rfl (by omega) (by omega) dL_law_221 (fun H locs hP hD hS => ?_)
            have hP : va_P D vwCl (ZW cI cB a y 0 n st ik td (nd + 1) nh bs ktd knd knh kbs pg kd ag pa bo (upd dm nd (nI m9)) (upd dn nd (nI d9)) hh hn kag kpa kbo kdm kdn khh khn wb ps ty wa wc ga (upd tt nd (nI d9)) (upd ow nd (nI m9))) H := P_eq hP ZW_s44
            have hD : va_D A (ZW cI cB a y 0 n st ik td (nd + 1) nh bs ktd knd knh kbs pg kd ag pa bo (upd dm nd (nI m9)) (upd dn nd (nI d9)) hh hn kag kpa kbo kdm kdn khh khn wb ps ty wa wc ga (upd tt nd (nI d9)) (upd ow nd (nI m9))) := D_eq hD ZW_s44
            refine lv_iinc (v := (nI (nd + 1))) (lv' := [(11, .int (nI (nd + 1))), (10, .int (owed + (nI m9))), (14, .int (nI m9)), (0, .ref q), (1, .ref (a 0)), (2, .ref (y 0)), (3, .ref (y 1)), (4, .ref (y 2)), (5, .ref (y 3)), (6, .ref (y 4)), (7, .int (nI trip)), (8, .int (nI (29 * trip))), (9, .int (nI n)), (12, .int (nI t)), (13, .int (nI x))]) hx hb dL_law_222 hl (k := 12) rfl (nI_i1 _) (by decide) rfl (fun ls hl => ?_)
            exact kk (nd + 1) (owed + nI m9) _ _ _ (zJ.of hzI (hzD.s hnd) (by rw [how]; exact ow_s) hP hS) (lv_sub hl [3, 4, 5, 6, 7, 8, 9, 10, 11, 12, 1, 0, 13, 14] rfl)
        · exact absurd rfl c_182
      · exact absurd c_170 hnd
