abbrev rm_L_street : Room := { frames := 10, cells := 0, slots := 0, locals := 213 }
theorem vf_X2_street : vfacts RX2 yX2_street cX2_street 4 (some .int) 0 := ⟨⟨rfl, by decide +kernel, by decide +kernel, by decide +kernel⟩, gm_299, gm_300, gm_2, gm_301⟩
theorem sf_L_put : sfacts RL yL_put cL_put 2 (some .boolean) 2 := ⟨⟨rfl, by decide +kernel, by decide +kernel, by decide +kernel⟩, gm_238, gm_1, gm_239⟩
set_option maxRecDepth 100000 in
set_option maxHeartbeats 4000000 in
theorem c_L_street (l : Launch) (D : va_G) (cI cB : ClassId) (aS aV : Nat) (a y : Nat → Nat) (pl n st : Nat) (ik : Int32) (td nd nh : Nat) (bs : Int32) (ktd knd knh : Nat) (kbs : Int32) (pg kd ag pa bo dm dn hh hn kag kpa kbo kdm kdn khh khn wb ps ty : Nat → Int32) (wa wc : Nat → Int32) (ga : Nat → Int64) (tt ow : Nat → Int32) (x z : Nat) (hD0 : va_D (fun _ => True) (ZW cI cB a y 0 n st ik td nd nh bs ktd knd knh kbs pg kd ag pa bo dm dn hh hn kag kpa kbo kdm kdn khh khn wb ps ty wa wc ga tt ow)) (qx : x < 2147483648) (qz : z < 2147483648) : Met l yL_street (mw yL_street cL_street 7 (some .boolean)) rm_L_street (RPE D cI cB aS aV (inW (ZW cI cB a y 0 n st ik td nd nh bs ktd knd knh kbs pg kd ag pa bo dm dn hh hn kag kpa kbo kdm kdn khh khn wb ps ty wa wc ga tt ow)) (ZW cI cB a y 0 n st ik td nd nh bs ktd knd knh kbs pg kd ag pa bo dm dn hh hn kag kpa kbo kdm kdn khh khn wb ps ty wa wc ga tt ow) [.ref (a 0), .int (nI x), .int (nI z), .ref (y 0)]) (wq mkI (ZW cI cB a y 0 n st ik td nd nh bs ktd knd knh kbs pg kd ag pa bo dm dn hh hn kag kpa kbo kdm kdn khh khn wb ps ty wa wc ga tt ow) (fun (_ : Unit) => ZW cI cB a y 0 (sN x) (st + 1) (nI 0) 0 0 0 (nI 0) ktd knd knh kbs (pgL x z pg (sN x)) (cpF (stK (pgL x z pg (sN x))) kd (sN x)) (cpF (stA (pgL x z pg (sN x))) ag (sN x)) pa (fun _ => nI 0) dm dn hh hn kag kpa kbo kdm kdn khh khn wb ps ty (sW x z wa (sN x)) wc ga tt ow) D (fun (r : Int32) (_ : Unit) => r = (nI 1))) 0 0 (inW (ZW cI cB a y 0 n st ik td nd nh bs ktd knd knh kbs pg kd ag pa bo dm dn hh hn kag kpa kbo kdm kdn khh khn wb ps ty wa wc ga tt ow)) := by
  refine met_ofE (by decide) (Nat.le_of_ble_eq_true rfl) ?_
  intro p e s m below meth c ls hx hb hr hml hown hg hlocks hin hK hE hP hl
  have hown : s.vm.findClass RL = some m.cls := hown
  have hl : lv_has ls 7 [(0, .ref (a 0)), (1, .int (nI x)), (2, .int (nI z)), (3, .ref (y 0))] := hl
  have hD := hD0.here
  have hS0 : va_S (inW (ZW cI cB a y 0 n st ik td nd nh bs ktd knd knh kbs pg kd ag pa bo dm dn hh hn kag kpa kbo kdm kdn khh khn wb ps ty wa wc ga tt ow)) s.heap s.heap [] := va_S.rf
  obtain ⟨H, hH⟩ : ∃ H, H = s.heap := ⟨_, rfl⟩
  have hS : va_S (inW (ZW cI cB a y 0 n st ik td nd nh bs ktd knd knh kbs pg kd ag pa bo dm dn hh hn kag kpa kbo kdm kdn khh khn wb ps ty wa wc ga tt ow)) s.heap H [] := by rw [hH]; exact hS0
  clear hS0
  rw [← hH] at hP ⊢
  generalize hAe : inW (ZW cI cB a y 0 n st ik td nd nh bs ktd knd knh kbs pg kd ag pa bo dm dn hh hn kag kpa kbo kdm kdn khh khn wb ps ty wa wc ga tt ow) = A at hD hS hE ⊢
  have hsn := sN_6 (x := x)
  refine lv_iconst (v := (nI 1)) hx hb dL_street_0 (by decide) ?_
  refine lv_istore (lv' := [(4, .int (nI 1)), (0, .ref (a 0)), (1, .int (nI x)), (2, .int (nI z)), (3, .ref (y 0))]) hx hb dL_street_1 hl (by decide) rfl (fun ls hl => ?_)
  refine lv_aload_n hx hb dL_street_3 rfl (lv_at hl 4 rfl) ?_
  refine lv_iconst (v := (nI 0)) hx hb dL_street_4 (by decide) ?_
  refine lv_iconst (v := (nI 2)) hx hb dL_street_5 (by decide) ?_
  refine lv_iload_n hx hb dL_street_6 rfl (lv_at hl 2 rfl) ?_
  refine lv_iconst (v := (nI 5)) hx hb dL_street_7 (by decide) ?_
  refine nv_irem hx hb dL_street_8 (by omega) (by omega) (by omega) ?_
  refine nv_iadd hx hb dL_street_9 ?_
  rw [show ((nI (2 + (x % 5))) : Int32) = (nI (sN x)) from rfl]
  refine nv_iast hx hb hK.1 hP hD hS 41 0 ZW_g41 rfl (by omega) (by omega) dL_street_10 (fun H locs hP hD hS => ?_)
  have hP : va_P D vwCl (ZW cI cB a y 0 n st ik td nd nh bs ktd knd knh kbs pg kd ag pa bo dm dn hh hn kag kpa kbo kdm kdn khh khn wb ps ty (upd wa 0 (nI (sN x))) wc ga tt ow) H := P_eq hP ZW_s41
  have hD : va_D A (ZW cI cB a y 0 n st ik td nd nh bs ktd knd knh kbs pg kd ag pa bo dm dn hh hn kag kpa kbo kdm kdn khh khn wb ps ty (upd wa 0 (nI (sN x))) wc ga tt ow) := D_eq hD ZW_s41
  refine lv_aload_n hx hb dL_street_11 rfl (lv_at hl 4 rfl) ?_
  refine lv_iconst (v := (nI 1)) hx hb dL_street_12 (by decide) ?_
  refine lv_iconst (v := (nI 0)) hx hb dL_street_13 (by decide) ?_
  refine nv_iast hx hb hK.1 hP hD hS 41 0 ZW_g41 rfl (by omega) (by omega) dL_street_14 (fun H locs hP hD hS => ?_)
  have hP : va_P D vwCl (ZW cI cB a y 0 n st ik td nd nh bs ktd knd knh kbs pg kd ag pa bo dm dn hh hn kag kpa kbo kdm kdn khh khn wb ps ty (upd (upd wa 0 (nI (sN x))) 1 (nI 0)) wc ga tt ow) H := P_eq hP ZW_s41
  have hD : va_D A (ZW cI cB a y 0 n st ik td nd nh bs ktd knd knh kbs pg kd ag pa bo dm dn hh hn kag kpa kbo kdm kdn khh khn wb ps ty (upd (upd wa 0 (nI (sN x))) 1 (nI 0)) wc ga tt ow) := D_eq hD ZW_s41
  refine lv_aload_n hx hb dL_street_15 rfl (lv_at hl 4 rfl) ?_
  refine lv_iconst (v := (nI 2)) hx hb dL_street_16 (by decide) ?_
  refine lv_iconst (v := (nI 0)) hx hb dL_street_17 (by decide) ?_
  refine nv_iast hx hb hK.1 hP hD hS 41 0 ZW_g41 rfl (by omega) (by omega) dL_street_18 (fun H locs hP hD hS => ?_)
  have hP : va_P D vwCl (ZW cI cB a y 0 n st ik td nd nh bs ktd knd knh kbs pg kd ag pa bo dm dn hh hn kag kpa kbo kdm kdn khh khn wb ps ty (upd (upd (upd wa 0 (nI (sN x))) 1 (nI 0)) 2 (nI 0)) wc ga tt ow) H := P_eq hP ZW_s41
  have hD : va_D A (ZW cI cB a y 0 n st ik td nd nh bs ktd knd knh kbs pg kd ag pa bo dm dn hh hn kag kpa kbo kdm kdn khh khn wb ps ty (upd (upd (upd wa 0 (nI (sN x))) 1 (nI 0)) 2 (nI 0)) wc ga tt ow) := D_eq hD ZW_s41
  refine lv_iconst (v := (nI 0)) hx hb dL_street_19 (by decide) ?_
  refine lv_istore (lv' := [(5, .int (nI 0)), (4, .int (nI 1)), (0, .ref (a 0)), (1, .int (nI x)), (2, .int (nI z)), (3, .ref (y 0))]) hx hb dL_street_20 hl (by decide) rfl (fun ls hl => ?_)
  -- loop at 22
  refine loopW (nL := 7) (S := Unit) (B := (sN x)) (I := fun i u => True) (lv := fun i u => [(0, .ref (a 0)), (1, .int (nI x)), (2, .int (nI z)), (3, .ref (y 0)), (4, .int (nI 1)), (5, .int (nI i))]) (wf := fun i u => ZW cI cB a y (plL i) n st ik td nd nh bs ktd knd knh kbs (pgL x z pg i) kd ag pa bo dm dn hh hn kag kpa kbo kdm kdn khh khn wb ps ty (sW x z wa i) wc ga tt ow) 0 () (Nat.zero_le _) (trivial) (lv_sub hl [2, 3, 4, 5, 1, 0] rfl) hP (hD.addr (ZW_addr.trans ZW_addr.symm)) hS (fun i u ls H locs hj hI hl hP hD hS ih => ?_)
  have hP : va_P D vwCl (ZW cI cB a y (plL i) n st ik td nd nh bs ktd knd knh kbs (pgL x z pg i) kd ag pa bo dm dn hh hn kag kpa kbo kdm kdn khh khn wb ps ty (sW x z wa i) wc ga tt ow) H := hP
  have hD : va_D A (ZW cI cB a y (plL i) n st ik td nd nh bs ktd knd knh kbs (pgL x z pg i) kd ag pa bo dm dn hh hn kag kpa kbo kdm kdn khh khn wb ps ty (sW x z wa i) wc ga tt ow) := hD
  have hl : lv_has ls 7 [(0, .ref (a 0)), (1, .int (nI x)), (2, .int (nI z)), (3, .ref (y 0)), (4, .int (nI 1)), (5, .int (nI i))] := hl
  have h15 := e15_lt x (3 + 4 * i)
  have h16 := e15_lt z (4 * i)
  have hsk := sk_lt (x := x) (i := i)
  have hsa := sa_lt (z := z) (i := i)
  have ih_22 := ih
  refine lv_iload hx hb dL_street_22 (lv_at hl 5 rfl) ?_
  refine lv_aload_n hx hb dL_street_24 rfl (lv_at hl 3 rfl) ?_
  refine lv_iconst (v := (nI 0)) hx hb dL_street_25 (by decide) ?_
  refine nv_iald hx hb hK.1 hP 41 0 ZW_g41 rfl (by omega) (by omega) dL_street_26 ?_
  rw [show (((sW x z wa i) 0) : Int32) = (nI (sN x)) from sW_0]
  refine nv_icmp_ge (tgt := 186) hx hb dL_street_27 (by omega) (by omega) (by decide) (fun c_27 => ?_) (fun c_27 => ?_)
  · skip
    have ei : i = sN x := by omega
    subst ei
    have e_1 : plL (sN x) = 3 * sN x - 1 := plL_s (by omega)
    rw [e_1] at hP hD
    have hP : va_P D vwCl (ZW cI cB a y (3 * sN x - 1) n st ik td nd nh bs ktd knd knh kbs (pgL x z pg (sN x)) kd ag pa bo dm dn hh hn kag kpa kbo kdm kdn khh khn wb ps ty (sW x z wa (sN x)) wc ga tt ow) H := hP
    have hD : va_D A (ZW cI cB a y (3 * sN x - 1) n st ik td nd nh bs ktd knd knh kbs (pgL x z pg (sN x)) kd ag pa bo dm dn hh hn kag kpa kbo kdm kdn khh khn wb ps ty (sW x z wa (sN x)) wc ga tt ow) := hD
    have hpg : pgOK (pgL x z pg (sN x)) (3 * sN x - 1) := by have h := pgL_pg (x := x) (z := z) (pg := pg) (i := sN x); rw [plL_s (by omega)] at h; exact h
    have hft : ftF (pgL x z pg (sN x)) (3 * sN x - 1) = 3 * sN x - 1 := (pgL_st hsn.1 hsn.2).2.2
    refine lv_iload hx hb dL_street_186 (lv_at hl 4 rfl) ?_
    refine nv_if_eq (tgt := 219) hx hb dL_street_188 (by omega) (by decide) (fun c_188 => ?_) (fun c_188 => ?_)
    · exact absurd c_188 (by decide)
    · skip
      refine lv_aload_n hx hb dL_street_191 rfl (lv_at hl 0 rfl) ?_
      have hP_2 : va_P D vwCl (XW cI a (3 * sN x - 1) n st ik td nd nh bs ktd knd knh kbs (pgL x z pg (sN x)) kd ag pa bo dm dn hh hn kag kpa kbo kdm kdn khh khn wb ps ty) _ := P_X hP
      refine rdV (As := []) (rest := []) hx hb hml hown hg (c_X2_fault l D cI cB aS aV _ (3 * sN x - 1) n st ik td nd nh bs ktd knd knh kbs (pgL x z pg (sN x)) kd ag pa bo dm dn hh hn kag kpa kbo kdm kdn khh khn wb ps ty (by omega) hpg) gm_244 vf_X2_fault ⟨Nat.le_of_ble_eq_true rfl, Nat.le_of_ble_eq_true rfl⟩ ⟨rfl, rfl⟩ ⟨Nat.zero_le _, Nat.zero_le _⟩ (RPE.preV hK (hE.kept hS.2.1).none hP_2 (q0 := 0) (ci := 2) XW_g0 rfl) rfl hl.1 rfl (Nat.le_of_ble_eq_true rfl) dL_street_192 ?_
      rw [show ((nI (ftF (pgL x z pg (sN x)) (3 * sN x - 1))) : Int32) = (nI (3 * sN x - 1)) from congrArg nI hft]
      refine lv_iconst (v := (nI 3)) hx hb dL_street_195 (by decide) ?_
      refine lv_aload_n hx hb dL_street_196 rfl (lv_at hl 3 rfl) ?_
      refine lv_iconst (v := (nI 0)) hx hb dL_street_197 (by decide) ?_
      refine nv_iald hx hb hK.1 hP 41 0 ZW_g41 rfl (by omega) (by omega) dL_street_198 ?_
      rw [show (((sW x z wa (sN x)) 0) : Int32) = (nI (sN x)) from sW_0]
      refine nv_imul hx hb dL_street_199 ?_
      refine lv_iconst (v := (nI 1)) hx hb dL_street_200 (by decide) ?_
      refine nv_isub hx hb dL_street_201 (by omega) ?_
      refine nv_icmp_ne (tgt := 219) hx hb dL_street_202 (by omega) (by omega) (by decide) (fun c_202 => ?_) (fun c_202 => ?_)
      · exact absurd rfl c_202
      · skip
        refine lv_aload_n hx hb dL_street_205 rfl (lv_at hl 0 rfl) ?_
        have hP_3 : va_P D vwCl (XW cI a (3 * sN x - 1) n st ik td nd nh bs ktd knd knh kbs (pgL x z pg (sN x)) kd ag pa bo dm dn hh hn kag kpa kbo kdm kdn khh khn wb ps ty) _ := P_X hP
        refine wrVi (As := []) (rest := []) hx hb hml hown hg (c_X2_street l D cI cB aS aV _ (3 * sN x - 1) n st ik td nd nh bs ktd knd knh kbs (pgL x z pg (sN x)) kd ag pa bo dm dn hh hn kag kpa kbo kdm kdn khh khn wb ps ty ((D_X hD).weaken (fun _ _ _ _ => trivial)) (by omega) hpg) gm_298 vf_X2_street ⟨Nat.le_of_ble_eq_true rfl, Nat.le_of_ble_eq_true rfl⟩ ⟨rfl, rfl⟩ ⟨Nat.zero_le _, Nat.zero_le _⟩ (RPE.preV hK ((hE.kept hS.2.1).narrow (fun r hr => inW_all (D_X hD) r hr)) hP_3 (q0 := 0) (ci := 2) XW_g0 rfl) rfl hl.1 rfl (Nat.le_of_ble_eq_true rfl) dL_street_206 hS (inW_all (D_X hD)) (fun r_4 u_4 H1 locs hpo_4 hP1 hk1 hS => ?_)
        have hq9 := st_res hpo_4 (pgL_st hsn.1 hsn.2)
        obtain ⟨er9, eu9⟩ := hq9
        subst eu9
        subst er9
        have hP : va_P D vwCl (ZW cI cB a y 0 (((3 * sN x - 1) + 1) / 3) (st + 1) (nI 0) 0 0 0 (nI 0) ktd knd knh kbs (pgL x z pg (sN x)) (cpF (stK (pgL x z pg (sN x))) kd (((3 * sN x - 1) + 1) / 3)) (cpF (stA (pgL x z pg (sN x))) ag (((3 * sN x - 1) + 1) / 3)) pa (fun _ => nI 0) dm dn hh hn kag kpa kbo kdm kdn khh khn wb ps ty (sW x z wa (sN x)) wc ga tt ow) H1 := zx_join hP hD hP1 hk1
        have hD : va_D A (ZW cI cB a y 0 (((3 * sN x - 1) + 1) / 3) (st + 1) (nI 0) 0 0 0 (nI 0) ktd knd knh kbs (pgL x z pg (sN x)) (cpF (stK (pgL x z pg (sN x))) kd (((3 * sN x - 1) + 1) / 3)) (cpF (stA (pgL x z pg (sN x))) ag (((3 * sN x - 1) + 1) / 3)) pa (fun _ => nI 0) dm dn hh hn kag kpa kbo kdm kdn khh khn wb ps ty (sW x z wa (sN x)) wc ga tt ow) := hD.addr (ZW_addr.trans ZW_addr.symm)
        clear hP1 hk1
        generalize H1 = H at hP hS ⊢
        have e9 : (3 * sN x - 1 + 1) / 3 = sN x := by omega
        rw [e9] at hP hD ⊢
        have hP : va_P D vwCl (ZW cI cB a y 0 (sN x) (st + 1) (nI 0) 0 0 0 (nI 0) ktd knd knh kbs (pgL x z pg (sN x)) (cpF (stK (pgL x z pg (sN x))) kd (sN x)) (cpF (stA (pgL x z pg (sN x))) ag (sN x)) pa (fun _ => nI 0) dm dn hh hn kag kpa kbo kdm kdn khh khn wb ps ty (sW x z wa (sN x)) wc ga tt ow) H := hP
        have hD : va_D A (ZW cI cB a y 0 (sN x) (st + 1) (nI 0) 0 0 0 (nI 0) ktd knd knh kbs (pgL x z pg (sN x)) (cpF (stK (pgL x z pg (sN x))) kd (sN x)) (cpF (stA (pgL x z pg (sN x))) ag (sN x)) pa (fun _ => nI 0) dm dn hh hn kag kpa kbo kdm kdn khh khn wb ps ty (sW x z wa (sN x)) wc ga tt ow) := hD
        refine lv_aload_n hx hb dL_street_209 rfl (lv_at hl 3 rfl) ?_
        refine lv_iconst (v := (nI 0)) hx hb dL_street_210 (by decide) ?_
        refine nv_iald hx hb hK.1 hP 41 0 ZW_g41 rfl (by omega) (by omega) dL_street_211 ?_
        rw [show (((sW x z wa (sN x)) 0) : Int32) = (nI (sN x)) from sW_0]
        refine nv_icmp_ne (tgt := 219) hx hb dL_street_212 (by omega) (by omega) (by decide) (fun c_212 => ?_) (fun c_212 => ?_)
        · exact absurd rfl c_212
        · skip
          refine lv_iconst (v := (nI 1)) hx hb dL_street_215 (by decide) ?_
          refine lv_goto (tgt := 220) hx hb dL_street_216 (by decide) ?_
          subst hAe
          exact wr_z (w1 := fun (_ : Unit) => ZW cI cB a y 0 (sN x) (st + 1) (nI 0) 0 0 0 (nI 0) ktd knd knh kbs (pgL x z pg (sN x)) (cpF (stK (pgL x z pg (sN x))) kd (sN x)) (cpF (stA (pgL x z pg (sN x))) ag (sN x)) pa (fun _ => nI 0) dm dn hh hn kag kpa kbo kdm kdn khh khn wb ps ty (sW x z wa (sN x)) wc ga tt ow) hx hb hr hlocks hS nar_1 () hP dL_street_220 rfl
  · skip
    refine lv_iload_n hx hb dL_street_30 rfl (lv_at hl 1 rfl) ?_
    refine lv_iconst (v := (nI 3)) hx hb dL_street_31 (by decide) ?_
    refine lv_iconst (v := (nI 4)) hx hb dL_street_32 (by decide) ?_
    refine lv_iload hx hb dL_street_33 (lv_at hl 5 rfl) ?_
    refine nv_imul hx hb dL_street_35 ?_
    refine nv_iadd hx hb dL_street_36 ?_
    refine lv_ishr hx hb dL_street_37 ?_
    refine lv_bipush (v := (nI 15)) hx hb dL_street_38 (by decide) ?_
    refine lv_iand hx hb dL_street_40 ?_
    rw [show ((((nI x) >>> ((nI (3 + (4 * i))) &&& 31)) &&& (nI 15)) : Int32) = (nI (e15 x (3 + 4 * i))) from e15_ok x (3 + 4 * i)]
    refine lv_iconst (v := (nI 5)) hx hb dL_street_41 (by decide) ?_
    refine nv_irem hx hb dL_street_42 (by omega) (by omega) (by omega) ?_
    rw [show ((nI ((e15 x (3 + 4 * i)) % 5)) : Int32) = (nI (sk x i)) from rfl]
    refine lv_istore (lv' := [(6, .int (nI (sk x i))), (0, .ref (a 0)), (1, .int (nI x)), (2, .int (nI z)), (3, .ref (y 0)), (4, .int (nI 1)), (5, .int (nI i))]) hx hb dL_street_43 hl (by decide) rfl (fun ls hl => ?_)
    refine lv_aload_n hx hb dL_street_45 rfl (lv_at hl 4 rfl) ?_
    refine lv_iconst (v := (nI 3)) hx hb dL_street_46 (by decide) ?_
    refine lv_iconst (v := (nI 3)) hx hb dL_street_47 (by decide) ?_
    refine lv_iload hx hb dL_street_48 (lv_at hl 6 rfl) ?_
    refine nv_imul hx hb dL_street_50 ?_
    refine nv_iadd hx hb dL_street_51 ?_
    refine lv_iload hx hb dL_street_52 (lv_at hl 0 rfl) ?_
    refine nv_iast hx hb hK.1 hP hD hS 41 0 ZW_g41 rfl (by omega) (by omega) dL_street_54 (fun H locs hP hD hS => ?_)
    have hP : va_P D vwCl (ZW cI cB a y (plL i) n st ik td nd nh bs ktd knd knh kbs (pgL x z pg i) kd ag pa bo dm dn hh hn kag kpa kbo kdm kdn khh khn wb ps ty (upd (sW x z wa i) (3 + (3 * i)) (nI (sk x i))) wc ga tt ow) H := P_eq hP ZW_s41
    have hD : va_D A (ZW cI cB a y (plL i) n st ik td nd nh bs ktd knd knh kbs (pgL x z pg i) kd ag pa bo dm dn hh hn kag kpa kbo kdm kdn khh khn wb ps ty (upd (sW x z wa i) (3 + (3 * i)) (nI (sk x i))) wc ga tt ow) := D_eq hD ZW_s41
    refine lv_aload_n hx hb dL_street_55 rfl (lv_at hl 4 rfl) ?_
    refine lv_iconst (v := (nI 4)) hx hb dL_street_56 (by decide) ?_
    refine lv_iconst (v := (nI 3)) hx hb dL_street_57 (by decide) ?_
    refine lv_iload hx hb dL_street_58 (lv_at hl 6 rfl) ?_
    refine nv_imul hx hb dL_street_60 ?_
    refine nv_iadd hx hb dL_street_61 ?_
    refine lv_iload_n hx hb dL_street_62 rfl (lv_at hl 3 rfl) ?_
    refine lv_iconst (v := (nI 4)) hx hb dL_street_63 (by decide) ?_
    refine lv_iload hx hb dL_street_64 (lv_at hl 6 rfl) ?_
    refine nv_imul hx hb dL_street_66 ?_
    refine lv_ishr hx hb dL_street_67 ?_
    refine lv_bipush (v := (nI 15)) hx hb dL_street_68 (by decide) ?_
    refine lv_iand hx hb dL_street_70 ?_
    rw [show ((((nI z) >>> ((nI (4 * i)) &&& 31)) &&& (nI 15)) : Int32) = (nI (e15 z (4 * i))) from e15_ok z (4 * i)]
    refine lv_bipush (v := (nI 10)) hx hb dL_street_71 (by decide) ?_
    refine nv_irem hx hb dL_street_73 (by omega) (by omega) (by omega) ?_
    rw [show ((nI ((e15 z (4 * i)) % 10)) : Int32) = (nI (sa z i)) from rfl]
    refine nv_iast hx hb hK.1 hP hD hS 41 0 ZW_g41 rfl (by omega) (by omega) dL_street_74 (fun H locs hP hD hS => ?_)
    have hP : va_P D vwCl (ZW cI cB a y (plL i) n st ik td nd nh bs ktd knd knh kbs (pgL x z pg i) kd ag pa bo dm dn hh hn kag kpa kbo kdm kdn khh khn wb ps ty (upd (upd (sW x z wa i) (3 + (3 * i)) (nI (sk x i))) (4 + (3 * i)) (nI (sa z i))) wc ga tt ow) H := P_eq hP ZW_s41
    have hD : va_D A (ZW cI cB a y (plL i) n st ik td nd nh bs ktd knd knh kbs (pgL x z pg i) kd ag pa bo dm dn hh hn kag kpa kbo kdm kdn khh khn wb ps ty (upd (upd (sW x z wa i) (3 + (3 * i)) (nI (sk x i))) (4 + (3 * i)) (nI (sa z i))) wc ga tt ow) := D_eq hD ZW_s41
    refine lv_aload_n hx hb dL_street_75 rfl (lv_at hl 4 rfl) ?_
    refine lv_iconst (v := (nI 5)) hx hb dL_street_76 (by decide) ?_
    refine lv_iconst (v := (nI 3)) hx hb dL_street_77 (by decide) ?_
    refine lv_iload hx hb dL_street_78 (lv_at hl 6 rfl) ?_
    refine nv_imul hx hb dL_street_80 ?_
    refine nv_iadd hx hb dL_street_81 ?_
    refine lv_iconst (v := (nI 0)) hx hb dL_street_82 (by decide) ?_
    refine nv_iast hx hb hK.1 hP hD hS 41 0 ZW_g41 rfl (by omega) (by omega) dL_street_83 (fun H locs hP hD hS => ?_)
    have hP : va_P D vwCl (ZW cI cB a y (plL i) n st ik td nd nh bs ktd knd knh kbs (pgL x z pg i) kd ag pa bo dm dn hh hn kag kpa kbo kdm kdn khh khn wb ps ty (upd (upd (upd (sW x z wa i) (3 + (3 * i)) (nI (sk x i))) (4 + (3 * i)) (nI (sa z i))) (5 + (3 * i)) (nI 0)) wc ga tt ow) H := P_eq hP ZW_s41
    have hD : va_D A (ZW cI cB a y (plL i) n st ik td nd nh bs ktd knd knh kbs (pgL x z pg i) kd ag pa bo dm dn hh hn kag kpa kbo kdm kdn khh khn wb ps ty (upd (upd (upd (sW x z wa i) (3 + (3 * i)) (nI (sk x i))) (4 + (3 * i)) (nI (sa z i))) (5 + (3 * i)) (nI 0)) wc ga tt ow) := D_eq hD ZW_s41
    refine lv_iload hx hb dL_street_84 (lv_at hl 5 rfl) ?_
    refine nv_if_eq (tgt := 177) hx hb dL_street_86 (by omega) (by decide) (fun c_86 => ?_) (fun c_86 => ?_)
    · exact absurd c_86 (by decide)
    · skip
      refine lv_iload hx hb dL_street_89 (lv_at hl 6 rfl) ?_
      refine nv_if_eq (tgt := 103) hx hb dL_street_91 (by omega) (by decide) (fun c_91 => ?_) (fun c_91 => ?_)
      · skip
        have e_5 : plL i = 3 * i := plL_z c_91
        rw [e_5] at hP hD
        have hP : va_P D vwCl (ZW cI cB a y (3 * i) n st ik td nd nh bs ktd knd knh kbs (pgL x z pg i) kd ag pa bo dm dn hh hn kag kpa kbo kdm kdn khh khn wb ps ty (upd (upd (upd (sW x z wa i) (3 + (3 * i)) (nI (sk x i))) (4 + (3 * i)) (nI (sa z i))) (5 + (3 * i)) (nI 0)) wc ga tt ow) H := hP
        have hD : va_D A (ZW cI cB a y (3 * i) n st ik td nd nh bs ktd knd knh kbs (pgL x z pg i) kd ag pa bo dm dn hh hn kag kpa kbo kdm kdn khh khn wb ps ty (upd (upd (upd (sW x z wa i) (3 + (3 * i)) (nI (sk x i))) (4 + (3 * i)) (nI (sa z i))) (5 + (3 * i)) (nI 0)) wc ga tt ow) := hD
        have e_6 : pgL x z pg i = pgM x z pg i := pgM_z c_91
        rw [e_6] at hP hD
        have hP : va_P D vwCl (ZW cI cB a y (3 * i) n st ik td nd nh bs ktd knd knh kbs (pgM x z pg i) kd ag pa bo dm dn hh hn kag kpa kbo kdm kdn khh khn wb ps ty (upd (upd (upd (sW x z wa i) (3 + (3 * i)) (nI (sk x i))) (4 + (3 * i)) (nI (sa z i))) (5 + (3 * i)) (nI 0)) wc ga tt ow) H := hP
        have hD : va_D A (ZW cI cB a y (3 * i) n st ik td nd nh bs ktd knd knh kbs (pgM x z pg i) kd ag pa bo dm dn hh hn kag kpa kbo kdm kdn khh khn wb ps ty (upd (upd (upd (sW x z wa i) (3 + (3 * i)) (nI (sk x i))) (4 + (3 * i)) (nI (sa z i))) (5 + (3 * i)) (nI 0)) wc ga tt ow) := hD
        refine lv_aload_n hx hb dL_street_103 rfl (lv_at hl 1 rfl) ?_
        refine lv_iload hx hb dL_street_104 (lv_at hl 0 rfl) ?_
        refine nv_if_ne (tgt := 114) hx hb dL_street_106 (by omega) (by decide) (fun c_106 => ?_) (fun c_106 => ?_)
        · skip
          refine lv_iload hx hb dL_street_114 (lv_at hl 0 rfl) ?_
          refine lv_iconst (v := (nI 1)) hx hb dL_street_116 (by decide) ?_
          refine nv_icmp_ne (tgt := 125) hx hb dL_street_117 (by omega) (by omega) (by decide) (fun c_117 => ?_) (fun c_117 => ?_)
          · skip
            refine lv_iload hx hb dL_street_125 (lv_at hl 0 rfl) ?_
            refine lv_iconst (v := (nI 2)) hx hb dL_street_127 (by decide) ?_
            refine nv_icmp_ne (tgt := 136) hx hb dL_street_128 (by omega) (by omega) (by decide) (fun c_128 => ?_) (fun c_128 => ?_)
            · skip
              refine lv_iload hx hb dL_street_136 (lv_at hl 0 rfl) ?_
              refine lv_iconst (v := (nI 3)) hx hb dL_street_138 (by decide) ?_
              refine nv_icmp_ne (tgt := 147) hx hb dL_street_139 (by omega) (by omega) (by decide) (fun c_139 => ?_) (fun c_139 => ?_)
              · skip
                refine lv_bipush (v := (nI 98)) hx hb dL_street_147 (by decide) ?_
                have hP_7 : va_P D vwCl (XW cI a (3 * i) n st ik td nd nh bs ktd knd knh kbs (pgM x z pg i) kd ag pa bo dm dn hh hn kag kpa kbo kdm kdn khh khn wb ps ty) _ := P_X hP
                refine wrSi (As := [.ref (a 0), .int (nI 98)]) (rest := []) hx hb hml hown hg (c_L_put l D cI cB aS _ (3 * i) n st ik td nd nh bs ktd knd knh kbs (pgM x z pg i) kd ag pa bo dm dn hh hn kag kpa kbo kdm kdn khh khn wb ps ty 98 ((D_X hD).weaken (fun _ _ _ _ => trivial)) (by first | assumption | omega) (by first | assumption | omega) (by first | assumption | omega)) gm_237 sf_L_put ⟨Nat.le_of_ble_eq_true rfl, Nat.le_of_ble_eq_true rfl⟩ ⟨rfl, rfl⟩ ⟨Nat.zero_le _, Nat.zero_le _⟩ (RP.preS hK hP_7) rfl hl.1 rfl (Nat.le_of_ble_eq_true rfl) dL_street_149 hS (inW_all (D_X hD)) (fun r_8 u_8 H1 locs hpo_8 hP1 hk1 hS => ?_)
                have hP : va_P D vwCl (ZW cI cB a y ((3 * i) + 1) n st ik td nd nh bs ktd knd knh kbs (upd (pgM x z pg i) (3 * i) (nI 98)) kd ag pa bo dm dn hh hn kag kpa kbo kdm kdn khh khn wb ps ty (upd (upd (upd (sW x z wa i) (3 + (3 * i)) (nI (sk x i))) (4 + (3 * i)) (nI (sa z i))) (5 + (3 * i)) (nI 0)) wc ga tt ow) H1 := zx_join hP hD hP1 hk1
                have hD : va_D A (ZW cI cB a y ((3 * i) + 1) n st ik td nd nh bs ktd knd knh kbs (upd (pgM x z pg i) (3 * i) (nI 98)) kd ag pa bo dm dn hh hn kag kpa kbo kdm kdn khh khn wb ps ty (upd (upd (upd (sW x z wa i) (3 + (3 * i)) (nI (sk x i))) (4 + (3 * i)) (nI (sa z i))) (5 + (3 * i)) (nI 0)) wc ga tt ow) := hD.addr (ZW_addr.trans ZW_addr.symm)
                clear hP1 hk1
                generalize H1 = H at hP hS ⊢
                have hpo_8 : r_8 = (nI 1) := hpo_8
                subst hpo_8
                have e_9 : upd (pgM x z pg i) (3 * i) (nI 98) = upd (pgM x z pg i) (3 * i) (nI (kL (sk x i))) := (by first | rw [kL_0 c_106] | rw [kL_1 c_117] | rw [kL_2 c_128] | rw [kL_3 c_139] | rw [kL_4 sk_lt c_106 c_117 c_128 c_139])
                rw [e_9] at hP hD
                have hP : va_P D vwCl (ZW cI cB a y ((3 * i) + 1) n st ik td nd nh bs ktd knd knh kbs (upd (pgM x z pg i) (3 * i) (nI (kL (sk x i)))) kd ag pa bo dm dn hh hn kag kpa kbo kdm kdn khh khn wb ps ty (upd (upd (upd (sW x z wa i) (3 + (3 * i)) (nI (sk x i))) (4 + (3 * i)) (nI (sa z i))) (5 + (3 * i)) (nI 0)) wc ga tt ow) H := hP
                have hD : va_D A (ZW cI cB a y ((3 * i) + 1) n st ik td nd nh bs ktd knd knh kbs (upd (pgM x z pg i) (3 * i) (nI (kL (sk x i)))) kd ag pa bo dm dn hh hn kag kpa kbo kdm kdn khh khn wb ps ty (upd (upd (upd (sW x z wa i) (3 + (3 * i)) (nI (sk x i))) (4 + (3 * i)) (nI (sa z i))) (5 + (3 * i)) (nI 0)) wc ga tt ow) := hD
                refine nv_if_eq (tgt := 177) hx hb dL_street_152 (by omega) (by decide) (fun c_152 => ?_) (fun c_152 => ?_)
                · exact absurd c_152 (by decide)
                · skip
                  refine lv_aload_n hx hb dL_street_155 rfl (lv_at hl 1 rfl) ?_
                  refine lv_bipush (v := (nI 48)) hx hb dL_street_156 (by decide) ?_
                  refine lv_aload_n hx hb dL_street_158 rfl (lv_at hl 4 rfl) ?_
                  refine lv_iconst (v := (nI 4)) hx hb dL_street_159 (by decide) ?_
                  refine lv_iconst (v := (nI 3)) hx hb dL_street_160 (by decide) ?_
                  refine lv_iload hx hb dL_street_161 (lv_at hl 6 rfl) ?_
                  refine nv_imul hx hb dL_street_163 ?_
                  refine nv_iadd hx hb dL_street_164 ?_
                  refine nv_iald hx hb hK.1 hP 41 0 ZW_g41 rfl (by omega) (by omega) dL_street_165 ?_
                  rw [show (((upd (upd (upd (sW x z wa i) (3 + (3 * i)) (nI (sk x i))) (4 + (3 * i)) (nI (sa z i))) (5 + (3 * i)) (nI 0)) (4 + (3 * i))) : Int32) = (nI (sa z i)) from by rw [pk_un (by omega), pk_us]]
                  refine nv_iadd hx hb dL_street_166 ?_
                  have hP_10 : va_P D vwCl (XW cI a ((3 * i) + 1) n st ik td nd nh bs ktd knd knh kbs (upd (pgM x z pg i) (3 * i) (nI (kL (sk x i)))) kd ag pa bo dm dn hh hn kag kpa kbo kdm kdn khh khn wb ps ty) _ := P_X hP
                  refine wrSi (As := [.ref (a 0), .int (nI (48 + (sa z i)))]) (rest := []) hx hb hml hown hg (c_L_put l D cI cB aS _ ((3 * i) + 1) n st ik td nd nh bs ktd knd knh kbs (upd (pgM x z pg i) (3 * i) (nI (kL (sk x i)))) kd ag pa bo dm dn hh hn kag kpa kbo kdm kdn khh khn wb ps ty (48 + (sa z i)) ((D_X hD).weaken (fun _ _ _ _ => trivial)) (by first | assumption | omega) (by first | assumption | omega) (by first | assumption | omega)) gm_237 sf_L_put ⟨Nat.le_of_ble_eq_true rfl, Nat.le_of_ble_eq_true rfl⟩ ⟨rfl, rfl⟩ ⟨Nat.zero_le _, Nat.zero_le _⟩ (RP.preS hK hP_10) rfl hl.1 rfl (Nat.le_of_ble_eq_true rfl) dL_street_167 hS (inW_all (D_X hD)) (fun r_11 u_11 H1 locs hpo_11 hP1 hk1 hS => ?_)
                  have hP : va_P D vwCl (ZW cI cB a y (((3 * i) + 1) + 1) n st ik td nd nh bs ktd knd knh kbs (upd (upd (pgM x z pg i) (3 * i) (nI (kL (sk x i)))) ((3 * i) + 1) (nI (48 + (sa z i)))) kd ag pa bo dm dn hh hn kag kpa kbo kdm kdn khh khn wb ps ty (upd (upd (upd (sW x z wa i) (3 + (3 * i)) (nI (sk x i))) (4 + (3 * i)) (nI (sa z i))) (5 + (3 * i)) (nI 0)) wc ga tt ow) H1 := zx_join hP hD hP1 hk1
                  have hD : va_D A (ZW cI cB a y (((3 * i) + 1) + 1) n st ik td nd nh bs ktd knd knh kbs (upd (upd (pgM x z pg i) (3 * i) (nI (kL (sk x i)))) ((3 * i) + 1) (nI (48 + (sa z i)))) kd ag pa bo dm dn hh hn kag kpa kbo kdm kdn khh khn wb ps ty (upd (upd (upd (sW x z wa i) (3 + (3 * i)) (nI (sk x i))) (4 + (3 * i)) (nI (sa z i))) (5 + (3 * i)) (nI 0)) wc ga tt ow) := hD.addr (ZW_addr.trans ZW_addr.symm)
                  clear hP1 hk1
                  generalize H1 = H at hP hS ⊢
                  have hpo_11 : r_11 = (nI 1) := hpo_11
                  subst hpo_11
                  have e_12 : ((3 * i) + 1) + 1 = plL (i + 1) := plL_1 i
                  rw [e_12] at hP hD
                  have hP : va_P D vwCl (ZW cI cB a y (plL (i + 1)) n st ik td nd nh bs ktd knd knh kbs (upd (upd (pgM x z pg i) (3 * i) (nI (kL (sk x i)))) ((3 * i) + 1) (nI (48 + (sa z i)))) kd ag pa bo dm dn hh hn kag kpa kbo kdm kdn khh khn wb ps ty (upd (upd (upd (sW x z wa i) (3 + (3 * i)) (nI (sk x i))) (4 + (3 * i)) (nI (sa z i))) (5 + (3 * i)) (nI 0)) wc ga tt ow) H := hP
                  have hD : va_D A (ZW cI cB a y (plL (i + 1)) n st ik td nd nh bs ktd knd knh kbs (upd (upd (pgM x z pg i) (3 * i) (nI (kL (sk x i)))) ((3 * i) + 1) (nI (48 + (sa z i)))) kd ag pa bo dm dn hh hn kag kpa kbo kdm kdn khh khn wb ps ty (upd (upd (upd (sW x z wa i) (3 + (3 * i)) (nI (sk x i))) (4 + (3 * i)) (nI (sa z i))) (5 + (3 * i)) (nI 0)) wc ga tt ow) := hD
                  have e_13 : upd (upd (pgM x z pg i) (3 * i) (nI (kL (sk x i)))) ((3 * i) + 1) (nI (48 + (sa z i))) = pgL x z pg (i + 1) := pgL_s
                  rw [e_13] at hP hD
                  have hP : va_P D vwCl (ZW cI cB a y (plL (i + 1)) n st ik td nd nh bs ktd knd knh kbs (pgL x z pg (i + 1)) kd ag pa bo dm dn hh hn kag kpa kbo kdm kdn khh khn wb ps ty (upd (upd (upd (sW x z wa i) (3 + (3 * i)) (nI (sk x i))) (4 + (3 * i)) (nI (sa z i))) (5 + (3 * i)) (nI 0)) wc ga tt ow) H := hP
                  have hD : va_D A (ZW cI cB a y (plL (i + 1)) n st ik td nd nh bs ktd knd knh kbs (pgL x z pg (i + 1)) kd ag pa bo dm dn hh hn kag kpa kbo kdm kdn khh khn wb ps ty (upd (upd (upd (sW x z wa i) (3 + (3 * i)) (nI (sk x i))) (4 + (3 * i)) (nI (sa z i))) (5 + (3 * i)) (nI 0)) wc ga tt ow) := hD
                  refine nv_if_eq (tgt := 177) hx hb dL_street_170 (by omega) (by decide) (fun c_170 => ?_) (fun c_170 => ?_)
                  · exact absurd c_170 (by decide)
                  · skip
                    refine lv_iconst (v := (nI 1)) hx hb dL_street_173 (by decide) ?_
                    refine lv_goto (tgt := 178) hx hb dL_street_174 (by decide) ?_
                    refine lv_istore (lv' := [(4, .int (nI 1)), (6, .int (nI (sk x i))), (0, .ref (a 0)), (1, .int (nI x)), (2, .int (nI z)), (3, .ref (y 0)), (5, .int (nI i))]) hx hb dL_street_178 hl (by decide) rfl (fun ls hl => ?_)
                    refine lv_iinc (v := (nI (i + 1))) (lv' := [(5, .int (nI (i + 1))), (4, .int (nI 1)), (6, .int (nI (sk x i))), (0, .ref (a 0)), (1, .int (nI x)), (2, .int (nI z)), (3, .ref (y 0))]) hx hb dL_street_180 hl (k := 6) rfl (nI_i1 _) (by decide) rfl (fun ls hl => ?_)
                    refine lv_goto (tgt := 22) hx hb dL_street_183 (by decide) ?_
                    exact ih_22 () _ _ _ (by omega) (trivial) (lv_sub hl [3, 4, 5, 6, 1, 0] rfl) hP (hD.addr (ZW_addr.trans ZW_addr.symm)) hS
              · skip
                refine lv_bipush (v := (nI 99)) hx hb dL_street_142 (by decide) ?_
                refine lv_goto (tgt := 149) hx hb dL_street_144 (by decide) ?_
                have hP_14 : va_P D vwCl (XW cI a (3 * i) n st ik td nd nh bs ktd knd knh kbs (pgM x z pg i) kd ag pa bo dm dn hh hn kag kpa kbo kdm kdn khh khn wb ps ty) _ := P_X hP
                refine wrSi (As := [.ref (a 0), .int (nI 99)]) (rest := []) hx hb hml hown hg (c_L_put l D cI cB aS _ (3 * i) n st ik td nd nh bs ktd knd knh kbs (pgM x z pg i) kd ag pa bo dm dn hh hn kag kpa kbo kdm kdn khh khn wb ps ty 99 ((D_X hD).weaken (fun _ _ _ _ => trivial)) (by first | assumption | omega) (by first | assumption | omega) (by first | assumption | omega)) gm_237 sf_L_put ⟨Nat.le_of_ble_eq_true rfl, Nat.le_of_ble_eq_true rfl⟩ ⟨rfl, rfl⟩ ⟨Nat.zero_le _, Nat.zero_le _⟩ (RP.preS hK hP_14) rfl hl.1 rfl (Nat.le_of_ble_eq_true rfl) dL_street_149 hS (inW_all (D_X hD)) (fun r_15 u_15 H1 locs hpo_15 hP1 hk1 hS => ?_)
                have hP : va_P D vwCl (ZW cI cB a y ((3 * i) + 1) n st ik td nd nh bs ktd knd knh kbs (upd (pgM x z pg i) (3 * i) (nI 99)) kd ag pa bo dm dn hh hn kag kpa kbo kdm kdn khh khn wb ps ty (upd (upd (upd (sW x z wa i) (3 + (3 * i)) (nI (sk x i))) (4 + (3 * i)) (nI (sa z i))) (5 + (3 * i)) (nI 0)) wc ga tt ow) H1 := zx_join hP hD hP1 hk1
                have hD : va_D A (ZW cI cB a y ((3 * i) + 1) n st ik td nd nh bs ktd knd knh kbs (upd (pgM x z pg i) (3 * i) (nI 99)) kd ag pa bo dm dn hh hn kag kpa kbo kdm kdn khh khn wb ps ty (upd (upd (upd (sW x z wa i) (3 + (3 * i)) (nI (sk x i))) (4 + (3 * i)) (nI (sa z i))) (5 + (3 * i)) (nI 0)) wc ga tt ow) := hD.addr (ZW_addr.trans ZW_addr.symm)
                clear hP1 hk1
                generalize H1 = H at hP hS ⊢
                have hpo_15 : r_15 = (nI 1) := hpo_15
                subst hpo_15
                have e_16 : upd (pgM x z pg i) (3 * i) (nI 99) = upd (pgM x z pg i) (3 * i) (nI (kL (sk x i))) := (by first | rw [kL_0 c_106] | rw [kL_1 c_117] | rw [kL_2 c_128] | rw [kL_3 c_139] | rw [kL_4 sk_lt c_106 c_117 c_128 c_139])
                rw [e_16] at hP hD
                have hP : va_P D vwCl (ZW cI cB a y ((3 * i) + 1) n st ik td nd nh bs ktd knd knh kbs (upd (pgM x z pg i) (3 * i) (nI (kL (sk x i)))) kd ag pa bo dm dn hh hn kag kpa kbo kdm kdn khh khn wb ps ty (upd (upd (upd (sW x z wa i) (3 + (3 * i)) (nI (sk x i))) (4 + (3 * i)) (nI (sa z i))) (5 + (3 * i)) (nI 0)) wc ga tt ow) H := hP
                have hD : va_D A (ZW cI cB a y ((3 * i) + 1) n st ik td nd nh bs ktd knd knh kbs (upd (pgM x z pg i) (3 * i) (nI (kL (sk x i)))) kd ag pa bo dm dn hh hn kag kpa kbo kdm kdn khh khn wb ps ty (upd (upd (upd (sW x z wa i) (3 + (3 * i)) (nI (sk x i))) (4 + (3 * i)) (nI (sa z i))) (5 + (3 * i)) (nI 0)) wc ga tt ow) := hD
                refine nv_if_eq (tgt := 177) hx hb dL_street_152 (by omega) (by decide) (fun c_152 => ?_) (fun c_152 => ?_)
                · exact absurd c_152 (by decide)
                · skip
                  refine lv_aload_n hx hb dL_street_155 rfl (lv_at hl 1 rfl) ?_
                  refine lv_bipush (v := (nI 48)) hx hb dL_street_156 (by decide) ?_
                  refine lv_aload_n hx hb dL_street_158 rfl (lv_at hl 4 rfl) ?_
                  refine lv_iconst (v := (nI 4)) hx hb dL_street_159 (by decide) ?_
                  refine lv_iconst (v := (nI 3)) hx hb dL_street_160 (by decide) ?_
                  refine lv_iload hx hb dL_street_161 (lv_at hl 6 rfl) ?_
                  refine nv_imul hx hb dL_street_163 ?_
                  refine nv_iadd hx hb dL_street_164 ?_
                  refine nv_iald hx hb hK.1 hP 41 0 ZW_g41 rfl (by omega) (by omega) dL_street_165 ?_
                  rw [show (((upd (upd (upd (sW x z wa i) (3 + (3 * i)) (nI (sk x i))) (4 + (3 * i)) (nI (sa z i))) (5 + (3 * i)) (nI 0)) (4 + (3 * i))) : Int32) = (nI (sa z i)) from by rw [pk_un (by omega), pk_us]]
                  refine nv_iadd hx hb dL_street_166 ?_
                  have hP_17 : va_P D vwCl (XW cI a ((3 * i) + 1) n st ik td nd nh bs ktd knd knh kbs (upd (pgM x z pg i) (3 * i) (nI (kL (sk x i)))) kd ag pa bo dm dn hh hn kag kpa kbo kdm kdn khh khn wb ps ty) _ := P_X hP
                  refine wrSi (As := [.ref (a 0), .int (nI (48 + (sa z i)))]) (rest := []) hx hb hml hown hg (c_L_put l D cI cB aS _ ((3 * i) + 1) n st ik td nd nh bs ktd knd knh kbs (upd (pgM x z pg i) (3 * i) (nI (kL (sk x i)))) kd ag pa bo dm dn hh hn kag kpa kbo kdm kdn khh khn wb ps ty (48 + (sa z i)) ((D_X hD).weaken (fun _ _ _ _ => trivial)) (by first | assumption | omega) (by first | assumption | omega) (by first | assumption | omega)) gm_237 sf_L_put ⟨Nat.le_of_ble_eq_true rfl, Nat.le_of_ble_eq_true rfl⟩ ⟨rfl, rfl⟩ ⟨Nat.zero_le _, Nat.zero_le _⟩ (RP.preS hK hP_17) rfl hl.1 rfl (Nat.le_of_ble_eq_true rfl) dL_street_167 hS (inW_all (D_X hD)) (fun r_18 u_18 H1 locs hpo_18 hP1 hk1 hS => ?_)
                  have hP : va_P D vwCl (ZW cI cB a y (((3 * i) + 1) + 1) n st ik td nd nh bs ktd knd knh kbs (upd (upd (pgM x z pg i) (3 * i) (nI (kL (sk x i)))) ((3 * i) + 1) (nI (48 + (sa z i)))) kd ag pa bo dm dn hh hn kag kpa kbo kdm kdn khh khn wb ps ty (upd (upd (upd (sW x z wa i) (3 + (3 * i)) (nI (sk x i))) (4 + (3 * i)) (nI (sa z i))) (5 + (3 * i)) (nI 0)) wc ga tt ow) H1 := zx_join hP hD hP1 hk1
                  have hD : va_D A (ZW cI cB a y (((3 * i) + 1) + 1) n st ik td nd nh bs ktd knd knh kbs (upd (upd (pgM x z pg i) (3 * i) (nI (kL (sk x i)))) ((3 * i) + 1) (nI (48 + (sa z i)))) kd ag pa bo dm dn hh hn kag kpa kbo kdm kdn khh khn wb ps ty (upd (upd (upd (sW x z wa i) (3 + (3 * i)) (nI (sk x i))) (4 + (3 * i)) (nI (sa z i))) (5 + (3 * i)) (nI 0)) wc ga tt ow) := hD.addr (ZW_addr.trans ZW_addr.symm)
                  clear hP1 hk1
                  generalize H1 = H at hP hS ⊢
                  have hpo_18 : r_18 = (nI 1) := hpo_18
                  subst hpo_18
                  have e_19 : ((3 * i) + 1) + 1 = plL (i + 1) := plL_1 i
                  rw [e_19] at hP hD
                  have hP : va_P D vwCl (ZW cI cB a y (plL (i + 1)) n st ik td nd nh bs ktd knd knh kbs (upd (upd (pgM x z pg i) (3 * i) (nI (kL (sk x i)))) ((3 * i) + 1) (nI (48 + (sa z i)))) kd ag pa bo dm dn hh hn kag kpa kbo kdm kdn khh khn wb ps ty (upd (upd (upd (sW x z wa i) (3 + (3 * i)) (nI (sk x i))) (4 + (3 * i)) (nI (sa z i))) (5 + (3 * i)) (nI 0)) wc ga tt ow) H := hP
                  have hD : va_D A (ZW cI cB a y (plL (i + 1)) n st ik td nd nh bs ktd knd knh kbs (upd (upd (pgM x z pg i) (3 * i) (nI (kL (sk x i)))) ((3 * i) + 1) (nI (48 + (sa z i)))) kd ag pa bo dm dn hh hn kag kpa kbo kdm kdn khh khn wb ps ty (upd (upd (upd (sW x z wa i) (3 + (3 * i)) (nI (sk x i))) (4 + (3 * i)) (nI (sa z i))) (5 + (3 * i)) (nI 0)) wc ga tt ow) := hD
                  have e_20 : upd (upd (pgM x z pg i) (3 * i) (nI (kL (sk x i)))) ((3 * i) + 1) (nI (48 + (sa z i))) = pgL x z pg (i + 1) := pgL_s
                  rw [e_20] at hP hD
                  have hP : va_P D vwCl (ZW cI cB a y (plL (i + 1)) n st ik td nd nh bs ktd knd knh kbs (pgL x z pg (i + 1)) kd ag pa bo dm dn hh hn kag kpa kbo kdm kdn khh khn wb ps ty (upd (upd (upd (sW x z wa i) (3 + (3 * i)) (nI (sk x i))) (4 + (3 * i)) (nI (sa z i))) (5 + (3 * i)) (nI 0)) wc ga tt ow) H := hP
                  have hD : va_D A (ZW cI cB a y (plL (i + 1)) n st ik td nd nh bs ktd knd knh kbs (pgL x z pg (i + 1)) kd ag pa bo dm dn hh hn kag kpa kbo kdm kdn khh khn wb ps ty (upd (upd (upd (sW x z wa i) (3 + (3 * i)) (nI (sk x i))) (4 + (3 * i)) (nI (sa z i))) (5 + (3 * i)) (nI 0)) wc ga tt ow) := hD
                  refine nv_if_eq (tgt := 177) hx hb dL_street_170 (by omega) (by decide) (fun c_170 => ?_) (fun c_170 => ?_)
                  · exact absurd c_170 (by decide)
                  · skip
                    refine lv_iconst (v := (nI 1)) hx hb dL_street_173 (by decide) ?_
                    refine lv_goto (tgt := 178) hx hb dL_street_174 (by decide) ?_
                    refine lv_istore (lv' := [(4, .int (nI 1)), (6, .int (nI (sk x i))), (0, .ref (a 0)), (1, .int (nI x)), (2, .int (nI z)), (3, .ref (y 0)), (5, .int (nI i))]) hx hb dL_street_178 hl (by decide) rfl (fun ls hl => ?_)
                    refine lv_iinc (v := (nI (i + 1))) (lv' := [(5, .int (nI (i + 1))), (4, .int (nI 1)), (6, .int (nI (sk x i))), (0, .ref (a 0)), (1, .int (nI x)), (2, .int (nI z)), (3, .ref (y 0))]) hx hb dL_street_180 hl (k := 6) rfl (nI_i1 _) (by decide) rfl (fun ls hl => ?_)
                    refine lv_goto (tgt := 22) hx hb dL_street_183 (by decide) ?_
                    exact ih_22 () _ _ _ (by omega) (trivial) (lv_sub hl [3, 4, 5, 6, 1, 0] rfl) hP (hD.addr (ZW_addr.trans ZW_addr.symm)) hS
            · skip
              refine lv_bipush (v := (nI 109)) hx hb dL_street_131 (by decide) ?_
              refine lv_goto (tgt := 149) hx hb dL_street_133 (by decide) ?_
              have hP_21 : va_P D vwCl (XW cI a (3 * i) n st ik td nd nh bs ktd knd knh kbs (pgM x z pg i) kd ag pa bo dm dn hh hn kag kpa kbo kdm kdn khh khn wb ps ty) _ := P_X hP
              refine wrSi (As := [.ref (a 0), .int (nI 109)]) (rest := []) hx hb hml hown hg (c_L_put l D cI cB aS _ (3 * i) n st ik td nd nh bs ktd knd knh kbs (pgM x z pg i) kd ag pa bo dm dn hh hn kag kpa kbo kdm kdn khh khn wb ps ty 109 ((D_X hD).weaken (fun _ _ _ _ => trivial)) (by first | assumption | omega) (by first | assumption | omega) (by first | assumption | omega)) gm_237 sf_L_put ⟨Nat.le_of_ble_eq_true rfl, Nat.le_of_ble_eq_true rfl⟩ ⟨rfl, rfl⟩ ⟨Nat.zero_le _, Nat.zero_le _⟩ (RP.preS hK hP_21) rfl hl.1 rfl (Nat.le_of_ble_eq_true rfl) dL_street_149 hS (inW_all (D_X hD)) (fun r_22 u_22 H1 locs hpo_22 hP1 hk1 hS => ?_)
              have hP : va_P D vwCl (ZW cI cB a y ((3 * i) + 1) n st ik td nd nh bs ktd knd knh kbs (upd (pgM x z pg i) (3 * i) (nI 109)) kd ag pa bo dm dn hh hn kag kpa kbo kdm kdn khh khn wb ps ty (upd (upd (upd (sW x z wa i) (3 + (3 * i)) (nI (sk x i))) (4 + (3 * i)) (nI (sa z i))) (5 + (3 * i)) (nI 0)) wc ga tt ow) H1 := zx_join hP hD hP1 hk1
              have hD : va_D A (ZW cI cB a y ((3 * i) + 1) n st ik td nd nh bs ktd knd knh kbs (upd (pgM x z pg i) (3 * i) (nI 109)) kd ag pa bo dm dn hh hn kag kpa kbo kdm kdn khh khn wb ps ty (upd (upd (upd (sW x z wa i) (3 + (3 * i)) (nI (sk x i))) (4 + (3 * i)) (nI (sa z i))) (5 + (3 * i)) (nI 0)) wc ga tt ow) := hD.addr (ZW_addr.trans ZW_addr.symm)
              clear hP1 hk1
              generalize H1 = H at hP hS ⊢
              have hpo_22 : r_22 = (nI 1) := hpo_22
              subst hpo_22
              have e_23 : upd (pgM x z pg i) (3 * i) (nI 109) = upd (pgM x z pg i) (3 * i) (nI (kL (sk x i))) := (by first | rw [kL_0 c_106] | rw [kL_1 c_117] | rw [kL_2 c_128] | rw [kL_3 c_139] | rw [kL_4 sk_lt c_106 c_117 c_128 c_139])
              rw [e_23] at hP hD
              have hP : va_P D vwCl (ZW cI cB a y ((3 * i) + 1) n st ik td nd nh bs ktd knd knh kbs (upd (pgM x z pg i) (3 * i) (nI (kL (sk x i)))) kd ag pa bo dm dn hh hn kag kpa kbo kdm kdn khh khn wb ps ty (upd (upd (upd (sW x z wa i) (3 + (3 * i)) (nI (sk x i))) (4 + (3 * i)) (nI (sa z i))) (5 + (3 * i)) (nI 0)) wc ga tt ow) H := hP
              have hD : va_D A (ZW cI cB a y ((3 * i) + 1) n st ik td nd nh bs ktd knd knh kbs (upd (pgM x z pg i) (3 * i) (nI (kL (sk x i)))) kd ag pa bo dm dn hh hn kag kpa kbo kdm kdn khh khn wb ps ty (upd (upd (upd (sW x z wa i) (3 + (3 * i)) (nI (sk x i))) (4 + (3 * i)) (nI (sa z i))) (5 + (3 * i)) (nI 0)) wc ga tt ow) := hD
              refine nv_if_eq (tgt := 177) hx hb dL_street_152 (by omega) (by decide) (fun c_152 => ?_) (fun c_152 => ?_)
              · exact absurd c_152 (by decide)
              · skip
                refine lv_aload_n hx hb dL_street_155 rfl (lv_at hl 1 rfl) ?_
                refine lv_bipush (v := (nI 48)) hx hb dL_street_156 (by decide) ?_
                refine lv_aload_n hx hb dL_street_158 rfl (lv_at hl 4 rfl) ?_
                refine lv_iconst (v := (nI 4)) hx hb dL_street_159 (by decide) ?_
                refine lv_iconst (v := (nI 3)) hx hb dL_street_160 (by decide) ?_
                refine lv_iload hx hb dL_street_161 (lv_at hl 6 rfl) ?_
                refine nv_imul hx hb dL_street_163 ?_
                refine nv_iadd hx hb dL_street_164 ?_
                refine nv_iald hx hb hK.1 hP 41 0 ZW_g41 rfl (by omega) (by omega) dL_street_165 ?_
                rw [show (((upd (upd (upd (sW x z wa i) (3 + (3 * i)) (nI (sk x i))) (4 + (3 * i)) (nI (sa z i))) (5 + (3 * i)) (nI 0)) (4 + (3 * i))) : Int32) = (nI (sa z i)) from by rw [pk_un (by omega), pk_us]]
                refine nv_iadd hx hb dL_street_166 ?_
                have hP_24 : va_P D vwCl (XW cI a ((3 * i) + 1) n st ik td nd nh bs ktd knd knh kbs (upd (pgM x z pg i) (3 * i) (nI (kL (sk x i)))) kd ag pa bo dm dn hh hn kag kpa kbo kdm kdn khh khn wb ps ty) _ := P_X hP
                refine wrSi (As := [.ref (a 0), .int (nI (48 + (sa z i)))]) (rest := []) hx hb hml hown hg (c_L_put l D cI cB aS _ ((3 * i) + 1) n st ik td nd nh bs ktd knd knh kbs (upd (pgM x z pg i) (3 * i) (nI (kL (sk x i)))) kd ag pa bo dm dn hh hn kag kpa kbo kdm kdn khh khn wb ps ty (48 + (sa z i)) ((D_X hD).weaken (fun _ _ _ _ => trivial)) (by first | assumption | omega) (by first | assumption | omega) (by first | assumption | omega)) gm_237 sf_L_put ⟨Nat.le_of_ble_eq_true rfl, Nat.le_of_ble_eq_true rfl⟩ ⟨rfl, rfl⟩ ⟨Nat.zero_le _, Nat.zero_le _⟩ (RP.preS hK hP_24) rfl hl.1 rfl (Nat.le_of_ble_eq_true rfl) dL_street_167 hS (inW_all (D_X hD)) (fun r_25 u_25 H1 locs hpo_25 hP1 hk1 hS => ?_)
                have hP : va_P D vwCl (ZW cI cB a y (((3 * i) + 1) + 1) n st ik td nd nh bs ktd knd knh kbs (upd (upd (pgM x z pg i) (3 * i) (nI (kL (sk x i)))) ((3 * i) + 1) (nI (48 + (sa z i)))) kd ag pa bo dm dn hh hn kag kpa kbo kdm kdn khh khn wb ps ty (upd (upd (upd (sW x z wa i) (3 + (3 * i)) (nI (sk x i))) (4 + (3 * i)) (nI (sa z i))) (5 + (3 * i)) (nI 0)) wc ga tt ow) H1 := zx_join hP hD hP1 hk1
                have hD : va_D A (ZW cI cB a y (((3 * i) + 1) + 1) n st ik td nd nh bs ktd knd knh kbs (upd (upd (pgM x z pg i) (3 * i) (nI (kL (sk x i)))) ((3 * i) + 1) (nI (48 + (sa z i)))) kd ag pa bo dm dn hh hn kag kpa kbo kdm kdn khh khn wb ps ty (upd (upd (upd (sW x z wa i) (3 + (3 * i)) (nI (sk x i))) (4 + (3 * i)) (nI (sa z i))) (5 + (3 * i)) (nI 0)) wc ga tt ow) := hD.addr (ZW_addr.trans ZW_addr.symm)
                clear hP1 hk1
                generalize H1 = H at hP hS ⊢
                have hpo_25 : r_25 = (nI 1) := hpo_25
                subst hpo_25
                have e_26 : ((3 * i) + 1) + 1 = plL (i + 1) := plL_1 i
                rw [e_26] at hP hD
                have hP : va_P D vwCl (ZW cI cB a y (plL (i + 1)) n st ik td nd nh bs ktd knd knh kbs (upd (upd (pgM x z pg i) (3 * i) (nI (kL (sk x i)))) ((3 * i) + 1) (nI (48 + (sa z i)))) kd ag pa bo dm dn hh hn kag kpa kbo kdm kdn khh khn wb ps ty (upd (upd (upd (sW x z wa i) (3 + (3 * i)) (nI (sk x i))) (4 + (3 * i)) (nI (sa z i))) (5 + (3 * i)) (nI 0)) wc ga tt ow) H := hP
                have hD : va_D A (ZW cI cB a y (plL (i + 1)) n st ik td nd nh bs ktd knd knh kbs (upd (upd (pgM x z pg i) (3 * i) (nI (kL (sk x i)))) ((3 * i) + 1) (nI (48 + (sa z i)))) kd ag pa bo dm dn hh hn kag kpa kbo kdm kdn khh khn wb ps ty (upd (upd (upd (sW x z wa i) (3 + (3 * i)) (nI (sk x i))) (4 + (3 * i)) (nI (sa z i))) (5 + (3 * i)) (nI 0)) wc ga tt ow) := hD
                have e_27 : upd (upd (pgM x z pg i) (3 * i) (nI (kL (sk x i)))) ((3 * i) + 1) (nI (48 + (sa z i))) = pgL x z pg (i + 1) := pgL_s
                rw [e_27] at hP hD
                have hP : va_P D vwCl (ZW cI cB a y (plL (i + 1)) n st ik td nd nh bs ktd knd knh kbs (pgL x z pg (i + 1)) kd ag pa bo dm dn hh hn kag kpa kbo kdm kdn khh khn wb ps ty (upd (upd (upd (sW x z wa i) (3 + (3 * i)) (nI (sk x i))) (4 + (3 * i)) (nI (sa z i))) (5 + (3 * i)) (nI 0)) wc ga tt ow) H := hP
                have hD : va_D A (ZW cI cB a y (plL (i + 1)) n st ik td nd nh bs ktd knd knh kbs (pgL x z pg (i + 1)) kd ag pa bo dm dn hh hn kag kpa kbo kdm kdn khh khn wb ps ty (upd (upd (upd (sW x z wa i) (3 + (3 * i)) (nI (sk x i))) (4 + (3 * i)) (nI (sa z i))) (5 + (3 * i)) (nI 0)) wc ga tt ow) := hD
                refine nv_if_eq (tgt := 177) hx hb dL_street_170 (by omega) (by decide) (fun c_170 => ?_) (fun c_170 => ?_)
                · exact absurd c_170 (by decide)
                · skip
                  refine lv_iconst (v := (nI 1)) hx hb dL_street_173 (by decide) ?_
                  refine lv_goto (tgt := 178) hx hb dL_street_174 (by decide) ?_
                  refine lv_istore (lv' := [(4, .int (nI 1)), (6, .int (nI (sk x i))), (0, .ref (a 0)), (1, .int (nI x)), (2, .int (nI z)), (3, .ref (y 0)), (5, .int (nI i))]) hx hb dL_street_178 hl (by decide) rfl (fun ls hl => ?_)
                  refine lv_iinc (v := (nI (i + 1))) (lv' := [(5, .int (nI (i + 1))), (4, .int (nI 1)), (6, .int (nI (sk x i))), (0, .ref (a 0)), (1, .int (nI x)), (2, .int (nI z)), (3, .ref (y 0))]) hx hb dL_street_180 hl (k := 6) rfl (nI_i1 _) (by decide) rfl (fun ls hl => ?_)
                  refine lv_goto (tgt := 22) hx hb dL_street_183 (by decide) ?_
                  exact ih_22 () _ _ _ (by omega) (trivial) (lv_sub hl [3, 4, 5, 6, 1, 0] rfl) hP (hD.addr (ZW_addr.trans ZW_addr.symm)) hS
          · skip
            refine lv_bipush (v := (nI 116)) hx hb dL_street_120 (by decide) ?_
            refine lv_goto (tgt := 149) hx hb dL_street_122 (by decide) ?_
            have hP_28 : va_P D vwCl (XW cI a (3 * i) n st ik td nd nh bs ktd knd knh kbs (pgM x z pg i) kd ag pa bo dm dn hh hn kag kpa kbo kdm kdn khh khn wb ps ty) _ := P_X hP
            refine wrSi (As := [.ref (a 0), .int (nI 116)]) (rest := []) hx hb hml hown hg (c_L_put l D cI cB aS _ (3 * i) n st ik td nd nh bs ktd knd knh kbs (pgM x z pg i) kd ag pa bo dm dn hh hn kag kpa kbo kdm kdn khh khn wb ps ty 116 ((D_X hD).weaken (fun _ _ _ _ => trivial)) (by first | assumption | omega) (by first | assumption | omega) (by first | assumption | omega)) gm_237 sf_L_put ⟨Nat.le_of_ble_eq_true rfl, Nat.le_of_ble_eq_true rfl⟩ ⟨rfl, rfl⟩ ⟨Nat.zero_le _, Nat.zero_le _⟩ (RP.preS hK hP_28) rfl hl.1 rfl (Nat.le_of_ble_eq_true rfl) dL_street_149 hS (inW_all (D_X hD)) (fun r_29 u_29 H1 locs hpo_29 hP1 hk1 hS => ?_)
            have hP : va_P D vwCl (ZW cI cB a y ((3 * i) + 1) n st ik td nd nh bs ktd knd knh kbs (upd (pgM x z pg i) (3 * i) (nI 116)) kd ag pa bo dm dn hh hn kag kpa kbo kdm kdn khh khn wb ps ty (upd (upd (upd (sW x z wa i) (3 + (3 * i)) (nI (sk x i))) (4 + (3 * i)) (nI (sa z i))) (5 + (3 * i)) (nI 0)) wc ga tt ow) H1 := zx_join hP hD hP1 hk1
            have hD : va_D A (ZW cI cB a y ((3 * i) + 1) n st ik td nd nh bs ktd knd knh kbs (upd (pgM x z pg i) (3 * i) (nI 116)) kd ag pa bo dm dn hh hn kag kpa kbo kdm kdn khh khn wb ps ty (upd (upd (upd (sW x z wa i) (3 + (3 * i)) (nI (sk x i))) (4 + (3 * i)) (nI (sa z i))) (5 + (3 * i)) (nI 0)) wc ga tt ow) := hD.addr (ZW_addr.trans ZW_addr.symm)
            clear hP1 hk1
            generalize H1 = H at hP hS ⊢
            have hpo_29 : r_29 = (nI 1) := hpo_29
            subst hpo_29
            have e_30 : upd (pgM x z pg i) (3 * i) (nI 116) = upd (pgM x z pg i) (3 * i) (nI (kL (sk x i))) := (by first | rw [kL_0 c_106] | rw [kL_1 c_117] | rw [kL_2 c_128] | rw [kL_3 c_139] | rw [kL_4 sk_lt c_106 c_117 c_128 c_139])
            rw [e_30] at hP hD
            have hP : va_P D vwCl (ZW cI cB a y ((3 * i) + 1) n st ik td nd nh bs ktd knd knh kbs (upd (pgM x z pg i) (3 * i) (nI (kL (sk x i)))) kd ag pa bo dm dn hh hn kag kpa kbo kdm kdn khh khn wb ps ty (upd (upd (upd (sW x z wa i) (3 + (3 * i)) (nI (sk x i))) (4 + (3 * i)) (nI (sa z i))) (5 + (3 * i)) (nI 0)) wc ga tt ow) H := hP
            have hD : va_D A (ZW cI cB a y ((3 * i) + 1) n st ik td nd nh bs ktd knd knh kbs (upd (pgM x z pg i) (3 * i) (nI (kL (sk x i)))) kd ag pa bo dm dn hh hn kag kpa kbo kdm kdn khh khn wb ps ty (upd (upd (upd (sW x z wa i) (3 + (3 * i)) (nI (sk x i))) (4 + (3 * i)) (nI (sa z i))) (5 + (3 * i)) (nI 0)) wc ga tt ow) := hD
            refine nv_if_eq (tgt := 177) hx hb dL_street_152 (by omega) (by decide) (fun c_152 => ?_) (fun c_152 => ?_)
            · exact absurd c_152 (by decide)
            · skip
              refine lv_aload_n hx hb dL_street_155 rfl (lv_at hl 1 rfl) ?_
              refine lv_bipush (v := (nI 48)) hx hb dL_street_156 (by decide) ?_
              refine lv_aload_n hx hb dL_street_158 rfl (lv_at hl 4 rfl) ?_
              refine lv_iconst (v := (nI 4)) hx hb dL_street_159 (by decide) ?_
              refine lv_iconst (v := (nI 3)) hx hb dL_street_160 (by decide) ?_
              refine lv_iload hx hb dL_street_161 (lv_at hl 6 rfl) ?_
              refine nv_imul hx hb dL_street_163 ?_
              refine nv_iadd hx hb dL_street_164 ?_
              refine nv_iald hx hb hK.1 hP 41 0 ZW_g41 rfl (by omega) (by omega) dL_street_165 ?_
              rw [show (((upd (upd (upd (sW x z wa i) (3 + (3 * i)) (nI (sk x i))) (4 + (3 * i)) (nI (sa z i))) (5 + (3 * i)) (nI 0)) (4 + (3 * i))) : Int32) = (nI (sa z i)) from by rw [pk_un (by omega), pk_us]]
              refine nv_iadd hx hb dL_street_166 ?_
              have hP_31 : va_P D vwCl (XW cI a ((3 * i) + 1) n st ik td nd nh bs ktd knd knh kbs (upd (pgM x z pg i) (3 * i) (nI (kL (sk x i)))) kd ag pa bo dm dn hh hn kag kpa kbo kdm kdn khh khn wb ps ty) _ := P_X hP
              refine wrSi (As := [.ref (a 0), .int (nI (48 + (sa z i)))]) (rest := []) hx hb hml hown hg (c_L_put l D cI cB aS _ ((3 * i) + 1) n st ik td nd nh bs ktd knd knh kbs (upd (pgM x z pg i) (3 * i) (nI (kL (sk x i)))) kd ag pa bo dm dn hh hn kag kpa kbo kdm kdn khh khn wb ps ty (48 + (sa z i)) ((D_X hD).weaken (fun _ _ _ _ => trivial)) (by first | assumption | omega) (by first | assumption | omega) (by first | assumption | omega)) gm_237 sf_L_put ⟨Nat.le_of_ble_eq_true rfl, Nat.le_of_ble_eq_true rfl⟩ ⟨rfl, rfl⟩ ⟨Nat.zero_le _, Nat.zero_le _⟩ (RP.preS hK hP_31) rfl hl.1 rfl (Nat.le_of_ble_eq_true rfl) dL_street_167 hS (inW_all (D_X hD)) (fun r_32 u_32 H1 locs hpo_32 hP1 hk1 hS => ?_)
              have hP : va_P D vwCl (ZW cI cB a y (((3 * i) + 1) + 1) n st ik td nd nh bs ktd knd knh kbs (upd (upd (pgM x z pg i) (3 * i) (nI (kL (sk x i)))) ((3 * i) + 1) (nI (48 + (sa z i)))) kd ag pa bo dm dn hh hn kag kpa kbo kdm kdn khh khn wb ps ty (upd (upd (upd (sW x z wa i) (3 + (3 * i)) (nI (sk x i))) (4 + (3 * i)) (nI (sa z i))) (5 + (3 * i)) (nI 0)) wc ga tt ow) H1 := zx_join hP hD hP1 hk1
              have hD : va_D A (ZW cI cB a y (((3 * i) + 1) + 1) n st ik td nd nh bs ktd knd knh kbs (upd (upd (pgM x z pg i) (3 * i) (nI (kL (sk x i)))) ((3 * i) + 1) (nI (48 + (sa z i)))) kd ag pa bo dm dn hh hn kag kpa kbo kdm kdn khh khn wb ps ty (upd (upd (upd (sW x z wa i) (3 + (3 * i)) (nI (sk x i))) (4 + (3 * i)) (nI (sa z i))) (5 + (3 * i)) (nI 0)) wc ga tt ow) := hD.addr (ZW_addr.trans ZW_addr.symm)
              clear hP1 hk1
              generalize H1 = H at hP hS ⊢
              have hpo_32 : r_32 = (nI 1) := hpo_32
              subst hpo_32
              have e_33 : ((3 * i) + 1) + 1 = plL (i + 1) := plL_1 i
              rw [e_33] at hP hD
              have hP : va_P D vwCl (ZW cI cB a y (plL (i + 1)) n st ik td nd nh bs ktd knd knh kbs (upd (upd (pgM x z pg i) (3 * i) (nI (kL (sk x i)))) ((3 * i) + 1) (nI (48 + (sa z i)))) kd ag pa bo dm dn hh hn kag kpa kbo kdm kdn khh khn wb ps ty (upd (upd (upd (sW x z wa i) (3 + (3 * i)) (nI (sk x i))) (4 + (3 * i)) (nI (sa z i))) (5 + (3 * i)) (nI 0)) wc ga tt ow) H := hP
              have hD : va_D A (ZW cI cB a y (plL (i + 1)) n st ik td nd nh bs ktd knd knh kbs (upd (upd (pgM x z pg i) (3 * i) (nI (kL (sk x i)))) ((3 * i) + 1) (nI (48 + (sa z i)))) kd ag pa bo dm dn hh hn kag kpa kbo kdm kdn khh khn wb ps ty (upd (upd (upd (sW x z wa i) (3 + (3 * i)) (nI (sk x i))) (4 + (3 * i)) (nI (sa z i))) (5 + (3 * i)) (nI 0)) wc ga tt ow) := hD
              have e_34 : upd (upd (pgM x z pg i) (3 * i) (nI (kL (sk x i)))) ((3 * i) + 1) (nI (48 + (sa z i))) = pgL x z pg (i + 1) := pgL_s
              rw [e_34] at hP hD
              have hP : va_P D vwCl (ZW cI cB a y (plL (i + 1)) n st ik td nd nh bs ktd knd knh kbs (pgL x z pg (i + 1)) kd ag pa bo dm dn hh hn kag kpa kbo kdm kdn khh khn wb ps ty (upd (upd (upd (sW x z wa i) (3 + (3 * i)) (nI (sk x i))) (4 + (3 * i)) (nI (sa z i))) (5 + (3 * i)) (nI 0)) wc ga tt ow) H := hP
              have hD : va_D A (ZW cI cB a y (plL (i + 1)) n st ik td nd nh bs ktd knd knh kbs (pgL x z pg (i + 1)) kd ag pa bo dm dn hh hn kag kpa kbo kdm kdn khh khn wb ps ty (upd (upd (upd (sW x z wa i) (3 + (3 * i)) (nI (sk x i))) (4 + (3 * i)) (nI (sa z i))) (5 + (3 * i)) (nI 0)) wc ga tt ow) := hD
              refine nv_if_eq (tgt := 177) hx hb dL_street_170 (by omega) (by decide) (fun c_170 => ?_) (fun c_170 => ?_)
              · exact absurd c_170 (by decide)
              · skip
                refine lv_iconst (v := (nI 1)) hx hb dL_street_173 (by decide) ?_
                refine lv_goto (tgt := 178) hx hb dL_street_174 (by decide) ?_
                refine lv_istore (lv' := [(4, .int (nI 1)), (6, .int (nI (sk x i))), (0, .ref (a 0)), (1, .int (nI x)), (2, .int (nI z)), (3, .ref (y 0)), (5, .int (nI i))]) hx hb dL_street_178 hl (by decide) rfl (fun ls hl => ?_)
                refine lv_iinc (v := (nI (i + 1))) (lv' := [(5, .int (nI (i + 1))), (4, .int (nI 1)), (6, .int (nI (sk x i))), (0, .ref (a 0)), (1, .int (nI x)), (2, .int (nI z)), (3, .ref (y 0))]) hx hb dL_street_180 hl (k := 6) rfl (nI_i1 _) (by decide) rfl (fun ls hl => ?_)
                refine lv_goto (tgt := 22) hx hb dL_street_183 (by decide) ?_
                exact ih_22 () _ _ _ (by omega) (trivial) (lv_sub hl [3, 4, 5, 6, 1, 0] rfl) hP (hD.addr (ZW_addr.trans ZW_addr.symm)) hS
        · skip
          refine lv_bipush (v := (nI 104)) hx hb dL_street_109 (by decide) ?_
          refine lv_goto (tgt := 149) hx hb dL_street_111 (by decide) ?_
          have hP_35 : va_P D vwCl (XW cI a (3 * i) n st ik td nd nh bs ktd knd knh kbs (pgM x z pg i) kd ag pa bo dm dn hh hn kag kpa kbo kdm kdn khh khn wb ps ty) _ := P_X hP
          refine wrSi (As := [.ref (a 0), .int (nI 104)]) (rest := []) hx hb hml hown hg (c_L_put l D cI cB aS _ (3 * i) n st ik td nd nh bs ktd knd knh kbs (pgM x z pg i) kd ag pa bo dm dn hh hn kag kpa kbo kdm kdn khh khn wb ps ty 104 ((D_X hD).weaken (fun _ _ _ _ => trivial)) (by first | assumption | omega) (by first | assumption | omega) (by first | assumption | omega)) gm_237 sf_L_put ⟨Nat.le_of_ble_eq_true rfl, Nat.le_of_ble_eq_true rfl⟩ ⟨rfl, rfl⟩ ⟨Nat.zero_le _, Nat.zero_le _⟩ (RP.preS hK hP_35) rfl hl.1 rfl (Nat.le_of_ble_eq_true rfl) dL_street_149 hS (inW_all (D_X hD)) (fun r_36 u_36 H1 locs hpo_36 hP1 hk1 hS => ?_)
          have hP : va_P D vwCl (ZW cI cB a y ((3 * i) + 1) n st ik td nd nh bs ktd knd knh kbs (upd (pgM x z pg i) (3 * i) (nI 104)) kd ag pa bo dm dn hh hn kag kpa kbo kdm kdn khh khn wb ps ty (upd (upd (upd (sW x z wa i) (3 + (3 * i)) (nI (sk x i))) (4 + (3 * i)) (nI (sa z i))) (5 + (3 * i)) (nI 0)) wc ga tt ow) H1 := zx_join hP hD hP1 hk1
          have hD : va_D A (ZW cI cB a y ((3 * i) + 1) n st ik td nd nh bs ktd knd knh kbs (upd (pgM x z pg i) (3 * i) (nI 104)) kd ag pa bo dm dn hh hn kag kpa kbo kdm kdn khh khn wb ps ty (upd (upd (upd (sW x z wa i) (3 + (3 * i)) (nI (sk x i))) (4 + (3 * i)) (nI (sa z i))) (5 + (3 * i)) (nI 0)) wc ga tt ow) := hD.addr (ZW_addr.trans ZW_addr.symm)
          clear hP1 hk1
          generalize H1 = H at hP hS ⊢
          have hpo_36 : r_36 = (nI 1) := hpo_36
          subst hpo_36
          have e_37 : upd (pgM x z pg i) (3 * i) (nI 104) = upd (pgM x z pg i) (3 * i) (nI (kL (sk x i))) := (by first | rw [kL_0 c_106] | rw [kL_1 c_117] | rw [kL_2 c_128] | rw [kL_3 c_139] | rw [kL_4 sk_lt c_106 c_117 c_128 c_139])
          rw [e_37] at hP hD
          have hP : va_P D vwCl (ZW cI cB a y ((3 * i) + 1) n st ik td nd nh bs ktd knd knh kbs (upd (pgM x z pg i) (3 * i) (nI (kL (sk x i)))) kd ag pa bo dm dn hh hn kag kpa kbo kdm kdn khh khn wb ps ty (upd (upd (upd (sW x z wa i) (3 + (3 * i)) (nI (sk x i))) (4 + (3 * i)) (nI (sa z i))) (5 + (3 * i)) (nI 0)) wc ga tt ow) H := hP
          have hD : va_D A (ZW cI cB a y ((3 * i) + 1) n st ik td nd nh bs ktd knd knh kbs (upd (pgM x z pg i) (3 * i) (nI (kL (sk x i)))) kd ag pa bo dm dn hh hn kag kpa kbo kdm kdn khh khn wb ps ty (upd (upd (upd (sW x z wa i) (3 + (3 * i)) (nI (sk x i))) (4 + (3 * i)) (nI (sa z i))) (5 + (3 * i)) (nI 0)) wc ga tt ow) := hD
          refine nv_if_eq (tgt := 177) hx hb dL_street_152 (by omega) (by decide) (fun c_152 => ?_) (fun c_152 => ?_)
          · exact absurd c_152 (by decide)
          · skip
            refine lv_aload_n hx hb dL_street_155 rfl (lv_at hl 1 rfl) ?_
            refine lv_bipush (v := (nI 48)) hx hb dL_street_156 (by decide) ?_
            refine lv_aload_n hx hb dL_street_158 rfl (lv_at hl 4 rfl) ?_
            refine lv_iconst (v := (nI 4)) hx hb dL_street_159 (by decide) ?_
            refine lv_iconst (v := (nI 3)) hx hb dL_street_160 (by decide) ?_
            refine lv_iload hx hb dL_street_161 (lv_at hl 6 rfl) ?_
            refine nv_imul hx hb dL_street_163 ?_
            refine nv_iadd hx hb dL_street_164 ?_
            refine nv_iald hx hb hK.1 hP 41 0 ZW_g41 rfl (by omega) (by omega) dL_street_165 ?_
            rw [show (((upd (upd (upd (sW x z wa i) (3 + (3 * i)) (nI (sk x i))) (4 + (3 * i)) (nI (sa z i))) (5 + (3 * i)) (nI 0)) (4 + (3 * i))) : Int32) = (nI (sa z i)) from by rw [pk_un (by omega), pk_us]]
            refine nv_iadd hx hb dL_street_166 ?_
            have hP_38 : va_P D vwCl (XW cI a ((3 * i) + 1) n st ik td nd nh bs ktd knd knh kbs (upd (pgM x z pg i) (3 * i) (nI (kL (sk x i)))) kd ag pa bo dm dn hh hn kag kpa kbo kdm kdn khh khn wb ps ty) _ := P_X hP
            refine wrSi (As := [.ref (a 0), .int (nI (48 + (sa z i)))]) (rest := []) hx hb hml hown hg (c_L_put l D cI cB aS _ ((3 * i) + 1) n st ik td nd nh bs ktd knd knh kbs (upd (pgM x z pg i) (3 * i) (nI (kL (sk x i)))) kd ag pa bo dm dn hh hn kag kpa kbo kdm kdn khh khn wb ps ty (48 + (sa z i)) ((D_X hD).weaken (fun _ _ _ _ => trivial)) (by first | assumption | omega) (by first | assumption | omega) (by first | assumption | omega)) gm_237 sf_L_put ⟨Nat.le_of_ble_eq_true rfl, Nat.le_of_ble_eq_true rfl⟩ ⟨rfl, rfl⟩ ⟨Nat.zero_le _, Nat.zero_le _⟩ (RP.preS hK hP_38) rfl hl.1 rfl (Nat.le_of_ble_eq_true rfl) dL_street_167 hS (inW_all (D_X hD)) (fun r_39 u_39 H1 locs hpo_39 hP1 hk1 hS => ?_)
            have hP : va_P D vwCl (ZW cI cB a y (((3 * i) + 1) + 1) n st ik td nd nh bs ktd knd knh kbs (upd (upd (pgM x z pg i) (3 * i) (nI (kL (sk x i)))) ((3 * i) + 1) (nI (48 + (sa z i)))) kd ag pa bo dm dn hh hn kag kpa kbo kdm kdn khh khn wb ps ty (upd (upd (upd (sW x z wa i) (3 + (3 * i)) (nI (sk x i))) (4 + (3 * i)) (nI (sa z i))) (5 + (3 * i)) (nI 0)) wc ga tt ow) H1 := zx_join hP hD hP1 hk1
            have hD : va_D A (ZW cI cB a y (((3 * i) + 1) + 1) n st ik td nd nh bs ktd knd knh kbs (upd (upd (pgM x z pg i) (3 * i) (nI (kL (sk x i)))) ((3 * i) + 1) (nI (48 + (sa z i)))) kd ag pa bo dm dn hh hn kag kpa kbo kdm kdn khh khn wb ps ty (upd (upd (upd (sW x z wa i) (3 + (3 * i)) (nI (sk x i))) (4 + (3 * i)) (nI (sa z i))) (5 + (3 * i)) (nI 0)) wc ga tt ow) := hD.addr (ZW_addr.trans ZW_addr.symm)
            clear hP1 hk1
            generalize H1 = H at hP hS ⊢
            have hpo_39 : r_39 = (nI 1) := hpo_39
            subst hpo_39
            have e_40 : ((3 * i) + 1) + 1 = plL (i + 1) := plL_1 i
            rw [e_40] at hP hD
            have hP : va_P D vwCl (ZW cI cB a y (plL (i + 1)) n st ik td nd nh bs ktd knd knh kbs (upd (upd (pgM x z pg i) (3 * i) (nI (kL (sk x i)))) ((3 * i) + 1) (nI (48 + (sa z i)))) kd ag pa bo dm dn hh hn kag kpa kbo kdm kdn khh khn wb ps ty (upd (upd (upd (sW x z wa i) (3 + (3 * i)) (nI (sk x i))) (4 + (3 * i)) (nI (sa z i))) (5 + (3 * i)) (nI 0)) wc ga tt ow) H := hP
            have hD : va_D A (ZW cI cB a y (plL (i + 1)) n st ik td nd nh bs ktd knd knh kbs (upd (upd (pgM x z pg i) (3 * i) (nI (kL (sk x i)))) ((3 * i) + 1) (nI (48 + (sa z i)))) kd ag pa bo dm dn hh hn kag kpa kbo kdm kdn khh khn wb ps ty (upd (upd (upd (sW x z wa i) (3 + (3 * i)) (nI (sk x i))) (4 + (3 * i)) (nI (sa z i))) (5 + (3 * i)) (nI 0)) wc ga tt ow) := hD
            have e_41 : upd (upd (pgM x z pg i) (3 * i) (nI (kL (sk x i)))) ((3 * i) + 1) (nI (48 + (sa z i))) = pgL x z pg (i + 1) := pgL_s
            rw [e_41] at hP hD
            have hP : va_P D vwCl (ZW cI cB a y (plL (i + 1)) n st ik td nd nh bs ktd knd knh kbs (pgL x z pg (i + 1)) kd ag pa bo dm dn hh hn kag kpa kbo kdm kdn khh khn wb ps ty (upd (upd (upd (sW x z wa i) (3 + (3 * i)) (nI (sk x i))) (4 + (3 * i)) (nI (sa z i))) (5 + (3 * i)) (nI 0)) wc ga tt ow) H := hP
            have hD : va_D A (ZW cI cB a y (plL (i + 1)) n st ik td nd nh bs ktd knd knh kbs (pgL x z pg (i + 1)) kd ag pa bo dm dn hh hn kag kpa kbo kdm kdn khh khn wb ps ty (upd (upd (upd (sW x z wa i) (3 + (3 * i)) (nI (sk x i))) (4 + (3 * i)) (nI (sa z i))) (5 + (3 * i)) (nI 0)) wc ga tt ow) := hD
            refine nv_if_eq (tgt := 177) hx hb dL_street_170 (by omega) (by decide) (fun c_170 => ?_) (fun c_170 => ?_)
            · exact absurd c_170 (by decide)
            · skip
              refine lv_iconst (v := (nI 1)) hx hb dL_street_173 (by decide) ?_
              refine lv_goto (tgt := 178) hx hb dL_street_174 (by decide) ?_
              refine lv_istore (lv' := [(4, .int (nI 1)), (6, .int (nI (sk x i))), (0, .ref (a 0)), (1, .int (nI x)), (2, .int (nI z)), (3, .ref (y 0)), (5, .int (nI i))]) hx hb dL_street_178 hl (by decide) rfl (fun ls hl => ?_)
              refine lv_iinc (v := (nI (i + 1))) (lv' := [(5, .int (nI (i + 1))), (4, .int (nI 1)), (6, .int (nI (sk x i))), (0, .ref (a 0)), (1, .int (nI x)), (2, .int (nI z)), (3, .ref (y 0))]) hx hb dL_street_180 hl (k := 6) rfl (nI_i1 _) (by decide) rfl (fun ls hl => ?_)
              refine lv_goto (tgt := 22) hx hb dL_street_183 (by decide) ?_
              exact ih_22 () _ _ _ (by omega) (trivial) (lv_sub hl [3, 4, 5, 6, 1, 0] rfl) hP (hD.addr (ZW_addr.trans ZW_addr.symm)) hS
      · skip
        have e_42 : plL i = 3 * i - 1 := plL_s c_91
        rw [e_42] at hP hD
        have hP : va_P D vwCl (ZW cI cB a y (3 * i - 1) n st ik td nd nh bs ktd knd knh kbs (pgL x z pg i) kd ag pa bo dm dn hh hn kag kpa kbo kdm kdn khh khn wb ps ty (upd (upd (upd (sW x z wa i) (3 + (3 * i)) (nI (sk x i))) (4 + (3 * i)) (nI (sa z i))) (5 + (3 * i)) (nI 0)) wc ga tt ow) H := hP
        have hD : va_D A (ZW cI cB a y (3 * i - 1) n st ik td nd nh bs ktd knd knh kbs (pgL x z pg i) kd ag pa bo dm dn hh hn kag kpa kbo kdm kdn khh khn wb ps ty (upd (upd (upd (sW x z wa i) (3 + (3 * i)) (nI (sk x i))) (4 + (3 * i)) (nI (sa z i))) (5 + (3 * i)) (nI 0)) wc ga tt ow) := hD
        refine lv_aload_n hx hb dL_street_94 rfl (lv_at hl 1 rfl) ?_
        refine lv_bipush (v := (nI 44)) hx hb dL_street_95 (by decide) ?_
        have hP_43 : va_P D vwCl (XW cI a (3 * i - 1) n st ik td nd nh bs ktd knd knh kbs (pgL x z pg i) kd ag pa bo dm dn hh hn kag kpa kbo kdm kdn khh khn wb ps ty) _ := P_X hP
        refine wrSi (As := [.ref (a 0), .int (nI 44)]) (rest := []) hx hb hml hown hg (c_L_put l D cI cB aS _ (3 * i - 1) n st ik td nd nh bs ktd knd knh kbs (pgL x z pg i) kd ag pa bo dm dn hh hn kag kpa kbo kdm kdn khh khn wb ps ty 44 ((D_X hD).weaken (fun _ _ _ _ => trivial)) (by first | assumption | omega) (by first | assumption | omega) (by first | assumption | omega)) gm_237 sf_L_put ⟨Nat.le_of_ble_eq_true rfl, Nat.le_of_ble_eq_true rfl⟩ ⟨rfl, rfl⟩ ⟨Nat.zero_le _, Nat.zero_le _⟩ (RP.preS hK hP_43) rfl hl.1 rfl (Nat.le_of_ble_eq_true rfl) dL_street_97 hS (inW_all (D_X hD)) (fun r_44 u_44 H1 locs hpo_44 hP1 hk1 hS => ?_)
        have hP : va_P D vwCl (ZW cI cB a y ((3 * i - 1) + 1) n st ik td nd nh bs ktd knd knh kbs (upd (pgL x z pg i) (3 * i - 1) (nI 44)) kd ag pa bo dm dn hh hn kag kpa kbo kdm kdn khh khn wb ps ty (upd (upd (upd (sW x z wa i) (3 + (3 * i)) (nI (sk x i))) (4 + (3 * i)) (nI (sa z i))) (5 + (3 * i)) (nI 0)) wc ga tt ow) H1 := zx_join hP hD hP1 hk1
        have hD : va_D A (ZW cI cB a y ((3 * i - 1) + 1) n st ik td nd nh bs ktd knd knh kbs (upd (pgL x z pg i) (3 * i - 1) (nI 44)) kd ag pa bo dm dn hh hn kag kpa kbo kdm kdn khh khn wb ps ty (upd (upd (upd (sW x z wa i) (3 + (3 * i)) (nI (sk x i))) (4 + (3 * i)) (nI (sa z i))) (5 + (3 * i)) (nI 0)) wc ga tt ow) := hD.addr (ZW_addr.trans ZW_addr.symm)
        clear hP1 hk1
        generalize H1 = H at hP hS ⊢
        have hpo_44 : r_44 = (nI 1) := hpo_44
        subst hpo_44
        have e_45 : (3 * i - 1) + 1 = 3 * i := (by omega)
        rw [e_45] at hP hD
        have hP : va_P D vwCl (ZW cI cB a y (3 * i) n st ik td nd nh bs ktd knd knh kbs (upd (pgL x z pg i) (3 * i - 1) (nI 44)) kd ag pa bo dm dn hh hn kag kpa kbo kdm kdn khh khn wb ps ty (upd (upd (upd (sW x z wa i) (3 + (3 * i)) (nI (sk x i))) (4 + (3 * i)) (nI (sa z i))) (5 + (3 * i)) (nI 0)) wc ga tt ow) H := hP
        have hD : va_D A (ZW cI cB a y (3 * i) n st ik td nd nh bs ktd knd knh kbs (upd (pgL x z pg i) (3 * i - 1) (nI 44)) kd ag pa bo dm dn hh hn kag kpa kbo kdm kdn khh khn wb ps ty (upd (upd (upd (sW x z wa i) (3 + (3 * i)) (nI (sk x i))) (4 + (3 * i)) (nI (sa z i))) (5 + (3 * i)) (nI 0)) wc ga tt ow) := hD
        have e_46 : upd (pgL x z pg i) (3 * i - 1) (nI 44) = pgM x z pg i := pgM_s c_91
        rw [e_46] at hP hD
        have hP : va_P D vwCl (ZW cI cB a y (3 * i) n st ik td nd nh bs ktd knd knh kbs (pgM x z pg i) kd ag pa bo dm dn hh hn kag kpa kbo kdm kdn khh khn wb ps ty (upd (upd (upd (sW x z wa i) (3 + (3 * i)) (nI (sk x i))) (4 + (3 * i)) (nI (sa z i))) (5 + (3 * i)) (nI 0)) wc ga tt ow) H := hP
        have hD : va_D A (ZW cI cB a y (3 * i) n st ik td nd nh bs ktd knd knh kbs (pgM x z pg i) kd ag pa bo dm dn hh hn kag kpa kbo kdm kdn khh khn wb ps ty (upd (upd (upd (sW x z wa i) (3 + (3 * i)) (nI (sk x i))) (4 + (3 * i)) (nI (sa z i))) (5 + (3 * i)) (nI 0)) wc ga tt ow) := hD
        refine nv_if_eq (tgt := 177) hx hb dL_street_100 (by omega) (by decide) (fun c_100 => ?_) (fun c_100 => ?_)
        · exact absurd c_100 (by decide)
        · skip
          refine lv_aload_n hx hb dL_street_103 rfl (lv_at hl 1 rfl) ?_
          refine lv_iload hx hb dL_street_104 (lv_at hl 0 rfl) ?_
          refine nv_if_ne (tgt := 114) hx hb dL_street_106 (by omega) (by decide) (fun c_106 => ?_) (fun c_106 => ?_)
          · skip
            refine lv_iload hx hb dL_street_114 (lv_at hl 0 rfl) ?_
            refine lv_iconst (v := (nI 1)) hx hb dL_street_116 (by decide) ?_
            refine nv_icmp_ne (tgt := 125) hx hb dL_street_117 (by omega) (by omega) (by decide) (fun c_117 => ?_) (fun c_117 => ?_)
            · skip
              refine lv_iload hx hb dL_street_125 (lv_at hl 0 rfl) ?_
              refine lv_iconst (v := (nI 2)) hx hb dL_street_127 (by decide) ?_
              refine nv_icmp_ne (tgt := 136) hx hb dL_street_128 (by omega) (by omega) (by decide) (fun c_128 => ?_) (fun c_128 => ?_)
              · skip
                refine lv_iload hx hb dL_street_136 (lv_at hl 0 rfl) ?_
                refine lv_iconst (v := (nI 3)) hx hb dL_street_138 (by decide) ?_
                refine nv_icmp_ne (tgt := 147) hx hb dL_street_139 (by omega) (by omega) (by decide) (fun c_139 => ?_) (fun c_139 => ?_)
                · skip
                  refine lv_bipush (v := (nI 98)) hx hb dL_street_147 (by decide) ?_
                  have hP_47 : va_P D vwCl (XW cI a (3 * i) n st ik td nd nh bs ktd knd knh kbs (pgM x z pg i) kd ag pa bo dm dn hh hn kag kpa kbo kdm kdn khh khn wb ps ty) _ := P_X hP
                  refine wrSi (As := [.ref (a 0), .int (nI 98)]) (rest := []) hx hb hml hown hg (c_L_put l D cI cB aS _ (3 * i) n st ik td nd nh bs ktd knd knh kbs (pgM x z pg i) kd ag pa bo dm dn hh hn kag kpa kbo kdm kdn khh khn wb ps ty 98 ((D_X hD).weaken (fun _ _ _ _ => trivial)) (by first | assumption | omega) (by first | assumption | omega) (by first | assumption | omega)) gm_237 sf_L_put ⟨Nat.le_of_ble_eq_true rfl, Nat.le_of_ble_eq_true rfl⟩ ⟨rfl, rfl⟩ ⟨Nat.zero_le _, Nat.zero_le _⟩ (RP.preS hK hP_47) rfl hl.1 rfl (Nat.le_of_ble_eq_true rfl) dL_street_149 hS (inW_all (D_X hD)) (fun r_48 u_48 H1 locs hpo_48 hP1 hk1 hS => ?_)
                  have hP : va_P D vwCl (ZW cI cB a y ((3 * i) + 1) n st ik td nd nh bs ktd knd knh kbs (upd (pgM x z pg i) (3 * i) (nI 98)) kd ag pa bo dm dn hh hn kag kpa kbo kdm kdn khh khn wb ps ty (upd (upd (upd (sW x z wa i) (3 + (3 * i)) (nI (sk x i))) (4 + (3 * i)) (nI (sa z i))) (5 + (3 * i)) (nI 0)) wc ga tt ow) H1 := zx_join hP hD hP1 hk1
                  have hD : va_D A (ZW cI cB a y ((3 * i) + 1) n st ik td nd nh bs ktd knd knh kbs (upd (pgM x z pg i) (3 * i) (nI 98)) kd ag pa bo dm dn hh hn kag kpa kbo kdm kdn khh khn wb ps ty (upd (upd (upd (sW x z wa i) (3 + (3 * i)) (nI (sk x i))) (4 + (3 * i)) (nI (sa z i))) (5 + (3 * i)) (nI 0)) wc ga tt ow) := hD.addr (ZW_addr.trans ZW_addr.symm)
                  clear hP1 hk1
                  generalize H1 = H at hP hS ⊢
                  have hpo_48 : r_48 = (nI 1) := hpo_48
                  subst hpo_48
                  have e_49 : upd (pgM x z pg i) (3 * i) (nI 98) = upd (pgM x z pg i) (3 * i) (nI (kL (sk x i))) := (by first | rw [kL_0 c_106] | rw [kL_1 c_117] | rw [kL_2 c_128] | rw [kL_3 c_139] | rw [kL_4 sk_lt c_106 c_117 c_128 c_139])
                  rw [e_49] at hP hD
                  have hP : va_P D vwCl (ZW cI cB a y ((3 * i) + 1) n st ik td nd nh bs ktd knd knh kbs (upd (pgM x z pg i) (3 * i) (nI (kL (sk x i)))) kd ag pa bo dm dn hh hn kag kpa kbo kdm kdn khh khn wb ps ty (upd (upd (upd (sW x z wa i) (3 + (3 * i)) (nI (sk x i))) (4 + (3 * i)) (nI (sa z i))) (5 + (3 * i)) (nI 0)) wc ga tt ow) H := hP
                  have hD : va_D A (ZW cI cB a y ((3 * i) + 1) n st ik td nd nh bs ktd knd knh kbs (upd (pgM x z pg i) (3 * i) (nI (kL (sk x i)))) kd ag pa bo dm dn hh hn kag kpa kbo kdm kdn khh khn wb ps ty (upd (upd (upd (sW x z wa i) (3 + (3 * i)) (nI (sk x i))) (4 + (3 * i)) (nI (sa z i))) (5 + (3 * i)) (nI 0)) wc ga tt ow) := hD
                  refine nv_if_eq (tgt := 177) hx hb dL_street_152 (by omega) (by decide) (fun c_152 => ?_) (fun c_152 => ?_)
                  · exact absurd c_152 (by decide)
                  · skip
                    refine lv_aload_n hx hb dL_street_155 rfl (lv_at hl 1 rfl) ?_
                    refine lv_bipush (v := (nI 48)) hx hb dL_street_156 (by decide) ?_
                    refine lv_aload_n hx hb dL_street_158 rfl (lv_at hl 4 rfl) ?_
                    refine lv_iconst (v := (nI 4)) hx hb dL_street_159 (by decide) ?_
                    refine lv_iconst (v := (nI 3)) hx hb dL_street_160 (by decide) ?_
                    refine lv_iload hx hb dL_street_161 (lv_at hl 6 rfl) ?_
                    refine nv_imul hx hb dL_street_163 ?_
                    refine nv_iadd hx hb dL_street_164 ?_
                    refine nv_iald hx hb hK.1 hP 41 0 ZW_g41 rfl (by omega) (by omega) dL_street_165 ?_
                    rw [show (((upd (upd (upd (sW x z wa i) (3 + (3 * i)) (nI (sk x i))) (4 + (3 * i)) (nI (sa z i))) (5 + (3 * i)) (nI 0)) (4 + (3 * i))) : Int32) = (nI (sa z i)) from by rw [pk_un (by omega), pk_us]]
                    refine nv_iadd hx hb dL_street_166 ?_
                    have hP_50 : va_P D vwCl (XW cI a ((3 * i) + 1) n st ik td nd nh bs ktd knd knh kbs (upd (pgM x z pg i) (3 * i) (nI (kL (sk x i)))) kd ag pa bo dm dn hh hn kag kpa kbo kdm kdn khh khn wb ps ty) _ := P_X hP
                    refine wrSi (As := [.ref (a 0), .int (nI (48 + (sa z i)))]) (rest := []) hx hb hml hown hg (c_L_put l D cI cB aS _ ((3 * i) + 1) n st ik td nd nh bs ktd knd knh kbs (upd (pgM x z pg i) (3 * i) (nI (kL (sk x i)))) kd ag pa bo dm dn hh hn kag kpa kbo kdm kdn khh khn wb ps ty (48 + (sa z i)) ((D_X hD).weaken (fun _ _ _ _ => trivial)) (by first | assumption | omega) (by first | assumption | omega) (by first | assumption | omega)) gm_237 sf_L_put ⟨Nat.le_of_ble_eq_true rfl, Nat.le_of_ble_eq_true rfl⟩ ⟨rfl, rfl⟩ ⟨Nat.zero_le _, Nat.zero_le _⟩ (RP.preS hK hP_50) rfl hl.1 rfl (Nat.le_of_ble_eq_true rfl) dL_street_167 hS (inW_all (D_X hD)) (fun r_51 u_51 H1 locs hpo_51 hP1 hk1 hS => ?_)
                    have hP : va_P D vwCl (ZW cI cB a y (((3 * i) + 1) + 1) n st ik td nd nh bs ktd knd knh kbs (upd (upd (pgM x z pg i) (3 * i) (nI (kL (sk x i)))) ((3 * i) + 1) (nI (48 + (sa z i)))) kd ag pa bo dm dn hh hn kag kpa kbo kdm kdn khh khn wb ps ty (upd (upd (upd (sW x z wa i) (3 + (3 * i)) (nI (sk x i))) (4 + (3 * i)) (nI (sa z i))) (5 + (3 * i)) (nI 0)) wc ga tt ow) H1 := zx_join hP hD hP1 hk1
                    have hD : va_D A (ZW cI cB a y (((3 * i) + 1) + 1) n st ik td nd nh bs ktd knd knh kbs (upd (upd (pgM x z pg i) (3 * i) (nI (kL (sk x i)))) ((3 * i) + 1) (nI (48 + (sa z i)))) kd ag pa bo dm dn hh hn kag kpa kbo kdm kdn khh khn wb ps ty (upd (upd (upd (sW x z wa i) (3 + (3 * i)) (nI (sk x i))) (4 + (3 * i)) (nI (sa z i))) (5 + (3 * i)) (nI 0)) wc ga tt ow) := hD.addr (ZW_addr.trans ZW_addr.symm)
                    clear hP1 hk1
                    generalize H1 = H at hP hS ⊢
                    have hpo_51 : r_51 = (nI 1) := hpo_51
                    subst hpo_51
                    have e_52 : ((3 * i) + 1) + 1 = plL (i + 1) := plL_1 i
                    rw [e_52] at hP hD
                    have hP : va_P D vwCl (ZW cI cB a y (plL (i + 1)) n st ik td nd nh bs ktd knd knh kbs (upd (upd (pgM x z pg i) (3 * i) (nI (kL (sk x i)))) ((3 * i) + 1) (nI (48 + (sa z i)))) kd ag pa bo dm dn hh hn kag kpa kbo kdm kdn khh khn wb ps ty (upd (upd (upd (sW x z wa i) (3 + (3 * i)) (nI (sk x i))) (4 + (3 * i)) (nI (sa z i))) (5 + (3 * i)) (nI 0)) wc ga tt ow) H := hP
                    have hD : va_D A (ZW cI cB a y (plL (i + 1)) n st ik td nd nh bs ktd knd knh kbs (upd (upd (pgM x z pg i) (3 * i) (nI (kL (sk x i)))) ((3 * i) + 1) (nI (48 + (sa z i)))) kd ag pa bo dm dn hh hn kag kpa kbo kdm kdn khh khn wb ps ty (upd (upd (upd (sW x z wa i) (3 + (3 * i)) (nI (sk x i))) (4 + (3 * i)) (nI (sa z i))) (5 + (3 * i)) (nI 0)) wc ga tt ow) := hD
                    have e_53 : upd (upd (pgM x z pg i) (3 * i) (nI (kL (sk x i)))) ((3 * i) + 1) (nI (48 + (sa z i))) = pgL x z pg (i + 1) := pgL_s
                    rw [e_53] at hP hD
                    have hP : va_P D vwCl (ZW cI cB a y (plL (i + 1)) n st ik td nd nh bs ktd knd knh kbs (pgL x z pg (i + 1)) kd ag pa bo dm dn hh hn kag kpa kbo kdm kdn khh khn wb ps ty (upd (upd (upd (sW x z wa i) (3 + (3 * i)) (nI (sk x i))) (4 + (3 * i)) (nI (sa z i))) (5 + (3 * i)) (nI 0)) wc ga tt ow) H := hP
                    have hD : va_D A (ZW cI cB a y (plL (i + 1)) n st ik td nd nh bs ktd knd knh kbs (pgL x z pg (i + 1)) kd ag pa bo dm dn hh hn kag kpa kbo kdm kdn khh khn wb ps ty (upd (upd (upd (sW x z wa i) (3 + (3 * i)) (nI (sk x i))) (4 + (3 * i)) (nI (sa z i))) (5 + (3 * i)) (nI 0)) wc ga tt ow) := hD
                    refine nv_if_eq (tgt := 177) hx hb dL_street_170 (by omega) (by decide) (fun c_170 => ?_) (fun c_170 => ?_)
                    · exact absurd c_170 (by decide)
                    · skip
                      refine lv_iconst (v := (nI 1)) hx hb dL_street_173 (by decide) ?_
                      refine lv_goto (tgt := 178) hx hb dL_street_174 (by decide) ?_
                      refine lv_istore (lv' := [(4, .int (nI 1)), (6, .int (nI (sk x i))), (0, .ref (a 0)), (1, .int (nI x)), (2, .int (nI z)), (3, .ref (y 0)), (5, .int (nI i))]) hx hb dL_street_178 hl (by decide) rfl (fun ls hl => ?_)
                      refine lv_iinc (v := (nI (i + 1))) (lv' := [(5, .int (nI (i + 1))), (4, .int (nI 1)), (6, .int (nI (sk x i))), (0, .ref (a 0)), (1, .int (nI x)), (2, .int (nI z)), (3, .ref (y 0))]) hx hb dL_street_180 hl (k := 6) rfl (nI_i1 _) (by decide) rfl (fun ls hl => ?_)
                      refine lv_goto (tgt := 22) hx hb dL_street_183 (by decide) ?_
                      exact ih_22 () _ _ _ (by omega) (trivial) (lv_sub hl [3, 4, 5, 6, 1, 0] rfl) hP (hD.addr (ZW_addr.trans ZW_addr.symm)) hS
                · skip
                  refine lv_bipush (v := (nI 99)) hx hb dL_street_142 (by decide) ?_
                  refine lv_goto (tgt := 149) hx hb dL_street_144 (by decide) ?_
                  have hP_54 : va_P D vwCl (XW cI a (3 * i) n st ik td nd nh bs ktd knd knh kbs (pgM x z pg i) kd ag pa bo dm dn hh hn kag kpa kbo kdm kdn khh khn wb ps ty) _ := P_X hP
                  refine wrSi (As := [.ref (a 0), .int (nI 99)]) (rest := []) hx hb hml hown hg (c_L_put l D cI cB aS _ (3 * i) n st ik td nd nh bs ktd knd knh kbs (pgM x z pg i) kd ag pa bo dm dn hh hn kag kpa kbo kdm kdn khh khn wb ps ty 99 ((D_X hD).weaken (fun _ _ _ _ => trivial)) (by first | assumption | omega) (by first | assumption | omega) (by first | assumption | omega)) gm_237 sf_L_put ⟨Nat.le_of_ble_eq_true rfl, Nat.le_of_ble_eq_true rfl⟩ ⟨rfl, rfl⟩ ⟨Nat.zero_le _, Nat.zero_le _⟩ (RP.preS hK hP_54) rfl hl.1 rfl (Nat.le_of_ble_eq_true rfl) dL_street_149 hS (inW_all (D_X hD)) (fun r_55 u_55 H1 locs hpo_55 hP1 hk1 hS => ?_)
                  have hP : va_P D vwCl (ZW cI cB a y ((3 * i) + 1) n st ik td nd nh bs ktd knd knh kbs (upd (pgM x z pg i) (3 * i) (nI 99)) kd ag pa bo dm dn hh hn kag kpa kbo kdm kdn khh khn wb ps ty (upd (upd (upd (sW x z wa i) (3 + (3 * i)) (nI (sk x i))) (4 + (3 * i)) (nI (sa z i))) (5 + (3 * i)) (nI 0)) wc ga tt ow) H1 := zx_join hP hD hP1 hk1
                  have hD : va_D A (ZW cI cB a y ((3 * i) + 1) n st ik td nd nh bs ktd knd knh kbs (upd (pgM x z pg i) (3 * i) (nI 99)) kd ag pa bo dm dn hh hn kag kpa kbo kdm kdn khh khn wb ps ty (upd (upd (upd (sW x z wa i) (3 + (3 * i)) (nI (sk x i))) (4 + (3 * i)) (nI (sa z i))) (5 + (3 * i)) (nI 0)) wc ga tt ow) := hD.addr (ZW_addr.trans ZW_addr.symm)
                  clear hP1 hk1
                  generalize H1 = H at hP hS ⊢
                  have hpo_55 : r_55 = (nI 1) := hpo_55
                  subst hpo_55
                  have e_56 : upd (pgM x z pg i) (3 * i) (nI 99) = upd (pgM x z pg i) (3 * i) (nI (kL (sk x i))) := (by first | rw [kL_0 c_106] | rw [kL_1 c_117] | rw [kL_2 c_128] | rw [kL_3 c_139] | rw [kL_4 sk_lt c_106 c_117 c_128 c_139])
                  rw [e_56] at hP hD
                  have hP : va_P D vwCl (ZW cI cB a y ((3 * i) + 1) n st ik td nd nh bs ktd knd knh kbs (upd (pgM x z pg i) (3 * i) (nI (kL (sk x i)))) kd ag pa bo dm dn hh hn kag kpa kbo kdm kdn khh khn wb ps ty (upd (upd (upd (sW x z wa i) (3 + (3 * i)) (nI (sk x i))) (4 + (3 * i)) (nI (sa z i))) (5 + (3 * i)) (nI 0)) wc ga tt ow) H := hP
                  have hD : va_D A (ZW cI cB a y ((3 * i) + 1) n st ik td nd nh bs ktd knd knh kbs (upd (pgM x z pg i) (3 * i) (nI (kL (sk x i)))) kd ag pa bo dm dn hh hn kag kpa kbo kdm kdn khh khn wb ps ty (upd (upd (upd (sW x z wa i) (3 + (3 * i)) (nI (sk x i))) (4 + (3 * i)) (nI (sa z i))) (5 + (3 * i)) (nI 0)) wc ga tt ow) := hD
                  refine nv_if_eq (tgt := 177) hx hb dL_street_152 (by omega) (by decide) (fun c_152 => ?_) (fun c_152 => ?_)
                  · exact absurd c_152 (by decide)
                  · skip
                    refine lv_aload_n hx hb dL_street_155 rfl (lv_at hl 1 rfl) ?_
                    refine lv_bipush (v := (nI 48)) hx hb dL_street_156 (by decide) ?_
                    refine lv_aload_n hx hb dL_street_158 rfl (lv_at hl 4 rfl) ?_
                    refine lv_iconst (v := (nI 4)) hx hb dL_street_159 (by decide) ?_
                    refine lv_iconst (v := (nI 3)) hx hb dL_street_160 (by decide) ?_
                    refine lv_iload hx hb dL_street_161 (lv_at hl 6 rfl) ?_
                    refine nv_imul hx hb dL_street_163 ?_
                    refine nv_iadd hx hb dL_street_164 ?_
                    refine nv_iald hx hb hK.1 hP 41 0 ZW_g41 rfl (by omega) (by omega) dL_street_165 ?_
                    rw [show (((upd (upd (upd (sW x z wa i) (3 + (3 * i)) (nI (sk x i))) (4 + (3 * i)) (nI (sa z i))) (5 + (3 * i)) (nI 0)) (4 + (3 * i))) : Int32) = (nI (sa z i)) from by rw [pk_un (by omega), pk_us]]
                    refine nv_iadd hx hb dL_street_166 ?_
                    have hP_57 : va_P D vwCl (XW cI a ((3 * i) + 1) n st ik td nd nh bs ktd knd knh kbs (upd (pgM x z pg i) (3 * i) (nI (kL (sk x i)))) kd ag pa bo dm dn hh hn kag kpa kbo kdm kdn khh khn wb ps ty) _ := P_X hP
                    refine wrSi (As := [.ref (a 0), .int (nI (48 + (sa z i)))]) (rest := []) hx hb hml hown hg (c_L_put l D cI cB aS _ ((3 * i) + 1) n st ik td nd nh bs ktd knd knh kbs (upd (pgM x z pg i) (3 * i) (nI (kL (sk x i)))) kd ag pa bo dm dn hh hn kag kpa kbo kdm kdn khh khn wb ps ty (48 + (sa z i)) ((D_X hD).weaken (fun _ _ _ _ => trivial)) (by first | assumption | omega) (by first | assumption | omega) (by first | assumption | omega)) gm_237 sf_L_put ⟨Nat.le_of_ble_eq_true rfl, Nat.le_of_ble_eq_true rfl⟩ ⟨rfl, rfl⟩ ⟨Nat.zero_le _, Nat.zero_le _⟩ (RP.preS hK hP_57) rfl hl.1 rfl (Nat.le_of_ble_eq_true rfl) dL_street_167 hS (inW_all (D_X hD)) (fun r_58 u_58 H1 locs hpo_58 hP1 hk1 hS => ?_)
                    have hP : va_P D vwCl (ZW cI cB a y (((3 * i) + 1) + 1) n st ik td nd nh bs ktd knd knh kbs (upd (upd (pgM x z pg i) (3 * i) (nI (kL (sk x i)))) ((3 * i) + 1) (nI (48 + (sa z i)))) kd ag pa bo dm dn hh hn kag kpa kbo kdm kdn khh khn wb ps ty (upd (upd (upd (sW x z wa i) (3 + (3 * i)) (nI (sk x i))) (4 + (3 * i)) (nI (sa z i))) (5 + (3 * i)) (nI 0)) wc ga tt ow) H1 := zx_join hP hD hP1 hk1
                    have hD : va_D A (ZW cI cB a y (((3 * i) + 1) + 1) n st ik td nd nh bs ktd knd knh kbs (upd (upd (pgM x z pg i) (3 * i) (nI (kL (sk x i)))) ((3 * i) + 1) (nI (48 + (sa z i)))) kd ag pa bo dm dn hh hn kag kpa kbo kdm kdn khh khn wb ps ty (upd (upd (upd (sW x z wa i) (3 + (3 * i)) (nI (sk x i))) (4 + (3 * i)) (nI (sa z i))) (5 + (3 * i)) (nI 0)) wc ga tt ow) := hD.addr (ZW_addr.trans ZW_addr.symm)
                    clear hP1 hk1
                    generalize H1 = H at hP hS ⊢
                    have hpo_58 : r_58 = (nI 1) := hpo_58
                    subst hpo_58
                    have e_59 : ((3 * i) + 1) + 1 = plL (i + 1) := plL_1 i
                    rw [e_59] at hP hD
                    have hP : va_P D vwCl (ZW cI cB a y (plL (i + 1)) n st ik td nd nh bs ktd knd knh kbs (upd (upd (pgM x z pg i) (3 * i) (nI (kL (sk x i)))) ((3 * i) + 1) (nI (48 + (sa z i)))) kd ag pa bo dm dn hh hn kag kpa kbo kdm kdn khh khn wb ps ty (upd (upd (upd (sW x z wa i) (3 + (3 * i)) (nI (sk x i))) (4 + (3 * i)) (nI (sa z i))) (5 + (3 * i)) (nI 0)) wc ga tt ow) H := hP
                    have hD : va_D A (ZW cI cB a y (plL (i + 1)) n st ik td nd nh bs ktd knd knh kbs (upd (upd (pgM x z pg i) (3 * i) (nI (kL (sk x i)))) ((3 * i) + 1) (nI (48 + (sa z i)))) kd ag pa bo dm dn hh hn kag kpa kbo kdm kdn khh khn wb ps ty (upd (upd (upd (sW x z wa i) (3 + (3 * i)) (nI (sk x i))) (4 + (3 * i)) (nI (sa z i))) (5 + (3 * i)) (nI 0)) wc ga tt ow) := hD
                    have e_60 : upd (upd (pgM x z pg i) (3 * i) (nI (kL (sk x i)))) ((3 * i) + 1) (nI (48 + (sa z i))) = pgL x z pg (i + 1) := pgL_s
                    rw [e_60] at hP hD
                    have hP : va_P D vwCl (ZW cI cB a y (plL (i + 1)) n st ik td nd nh bs ktd knd knh kbs (pgL x z pg (i + 1)) kd ag pa bo dm dn hh hn kag kpa kbo kdm kdn khh khn wb ps ty (upd (upd (upd (sW x z wa i) (3 + (3 * i)) (nI (sk x i))) (4 + (3 * i)) (nI (sa z i))) (5 + (3 * i)) (nI 0)) wc ga tt ow) H := hP
                    have hD : va_D A (ZW cI cB a y (plL (i + 1)) n st ik td nd nh bs ktd knd knh kbs (pgL x z pg (i + 1)) kd ag pa bo dm dn hh hn kag kpa kbo kdm kdn khh khn wb ps ty (upd (upd (upd (sW x z wa i) (3 + (3 * i)) (nI (sk x i))) (4 + (3 * i)) (nI (sa z i))) (5 + (3 * i)) (nI 0)) wc ga tt ow) := hD
                    refine nv_if_eq (tgt := 177) hx hb dL_street_170 (by omega) (by decide) (fun c_170 => ?_) (fun c_170 => ?_)
                    · exact absurd c_170 (by decide)
                    · skip
                      refine lv_iconst (v := (nI 1)) hx hb dL_street_173 (by decide) ?_
                      refine lv_goto (tgt := 178) hx hb dL_street_174 (by decide) ?_
                      refine lv_istore (lv' := [(4, .int (nI 1)), (6, .int (nI (sk x i))), (0, .ref (a 0)), (1, .int (nI x)), (2, .int (nI z)), (3, .ref (y 0)), (5, .int (nI i))]) hx hb dL_street_178 hl (by decide) rfl (fun ls hl => ?_)
                      refine lv_iinc (v := (nI (i + 1))) (lv' := [(5, .int (nI (i + 1))), (4, .int (nI 1)), (6, .int (nI (sk x i))), (0, .ref (a 0)), (1, .int (nI x)), (2, .int (nI z)), (3, .ref (y 0))]) hx hb dL_street_180 hl (k := 6) rfl (nI_i1 _) (by decide) rfl (fun ls hl => ?_)
                      refine lv_goto (tgt := 22) hx hb dL_street_183 (by decide) ?_
                      exact ih_22 () _ _ _ (by omega) (trivial) (lv_sub hl [3, 4, 5, 6, 1, 0] rfl) hP (hD.addr (ZW_addr.trans ZW_addr.symm)) hS
              · skip
                refine lv_bipush (v := (nI 109)) hx hb dL_street_131 (by decide) ?_
                refine lv_goto (tgt := 149) hx hb dL_street_133 (by decide) ?_
                have hP_61 : va_P D vwCl (XW cI a (3 * i) n st ik td nd nh bs ktd knd knh kbs (pgM x z pg i) kd ag pa bo dm dn hh hn kag kpa kbo kdm kdn khh khn wb ps ty) _ := P_X hP
                refine wrSi (As := [.ref (a 0), .int (nI 109)]) (rest := []) hx hb hml hown hg (c_L_put l D cI cB aS _ (3 * i) n st ik td nd nh bs ktd knd knh kbs (pgM x z pg i) kd ag pa bo dm dn hh hn kag kpa kbo kdm kdn khh khn wb ps ty 109 ((D_X hD).weaken (fun _ _ _ _ => trivial)) (by first | assumption | omega) (by first | assumption | omega) (by first | assumption | omega)) gm_237 sf_L_put ⟨Nat.le_of_ble_eq_true rfl, Nat.le_of_ble_eq_true rfl⟩ ⟨rfl, rfl⟩ ⟨Nat.zero_le _, Nat.zero_le _⟩ (RP.preS hK hP_61) rfl hl.1 rfl (Nat.le_of_ble_eq_true rfl) dL_street_149 hS (inW_all (D_X hD)) (fun r_62 u_62 H1 locs hpo_62 hP1 hk1 hS => ?_)
                have hP : va_P D vwCl (ZW cI cB a y ((3 * i) + 1) n st ik td nd nh bs ktd knd knh kbs (upd (pgM x z pg i) (3 * i) (nI 109)) kd ag pa bo dm dn hh hn kag kpa kbo kdm kdn khh khn wb ps ty (upd (upd (upd (sW x z wa i) (3 + (3 * i)) (nI (sk x i))) (4 + (3 * i)) (nI (sa z i))) (5 + (3 * i)) (nI 0)) wc ga tt ow) H1 := zx_join hP hD hP1 hk1
                have hD : va_D A (ZW cI cB a y ((3 * i) + 1) n st ik td nd nh bs ktd knd knh kbs (upd (pgM x z pg i) (3 * i) (nI 109)) kd ag pa bo dm dn hh hn kag kpa kbo kdm kdn khh khn wb ps ty (upd (upd (upd (sW x z wa i) (3 + (3 * i)) (nI (sk x i))) (4 + (3 * i)) (nI (sa z i))) (5 + (3 * i)) (nI 0)) wc ga tt ow) := hD.addr (ZW_addr.trans ZW_addr.symm)
                clear hP1 hk1
                generalize H1 = H at hP hS ⊢
                have hpo_62 : r_62 = (nI 1) := hpo_62
                subst hpo_62
                have e_63 : upd (pgM x z pg i) (3 * i) (nI 109) = upd (pgM x z pg i) (3 * i) (nI (kL (sk x i))) := (by first | rw [kL_0 c_106] | rw [kL_1 c_117] | rw [kL_2 c_128] | rw [kL_3 c_139] | rw [kL_4 sk_lt c_106 c_117 c_128 c_139])
                rw [e_63] at hP hD
                have hP : va_P D vwCl (ZW cI cB a y ((3 * i) + 1) n st ik td nd nh bs ktd knd knh kbs (upd (pgM x z pg i) (3 * i) (nI (kL (sk x i)))) kd ag pa bo dm dn hh hn kag kpa kbo kdm kdn khh khn wb ps ty (upd (upd (upd (sW x z wa i) (3 + (3 * i)) (nI (sk x i))) (4 + (3 * i)) (nI (sa z i))) (5 + (3 * i)) (nI 0)) wc ga tt ow) H := hP
                have hD : va_D A (ZW cI cB a y ((3 * i) + 1) n st ik td nd nh bs ktd knd knh kbs (upd (pgM x z pg i) (3 * i) (nI (kL (sk x i)))) kd ag pa bo dm dn hh hn kag kpa kbo kdm kdn khh khn wb ps ty (upd (upd (upd (sW x z wa i) (3 + (3 * i)) (nI (sk x i))) (4 + (3 * i)) (nI (sa z i))) (5 + (3 * i)) (nI 0)) wc ga tt ow) := hD
                refine nv_if_eq (tgt := 177) hx hb dL_street_152 (by omega) (by decide) (fun c_152 => ?_) (fun c_152 => ?_)
                · exact absurd c_152 (by decide)
                · skip
                  refine lv_aload_n hx hb dL_street_155 rfl (lv_at hl 1 rfl) ?_
                  refine lv_bipush (v := (nI 48)) hx hb dL_street_156 (by decide) ?_
                  refine lv_aload_n hx hb dL_street_158 rfl (lv_at hl 4 rfl) ?_
                  refine lv_iconst (v := (nI 4)) hx hb dL_street_159 (by decide) ?_
                  refine lv_iconst (v := (nI 3)) hx hb dL_street_160 (by decide) ?_
                  refine lv_iload hx hb dL_street_161 (lv_at hl 6 rfl) ?_
                  refine nv_imul hx hb dL_street_163 ?_
                  refine nv_iadd hx hb dL_street_164 ?_
                  refine nv_iald hx hb hK.1 hP 41 0 ZW_g41 rfl (by omega) (by omega) dL_street_165 ?_
                  rw [show (((upd (upd (upd (sW x z wa i) (3 + (3 * i)) (nI (sk x i))) (4 + (3 * i)) (nI (sa z i))) (5 + (3 * i)) (nI 0)) (4 + (3 * i))) : Int32) = (nI (sa z i)) from by rw [pk_un (by omega), pk_us]]
                  refine nv_iadd hx hb dL_street_166 ?_
                  have hP_64 : va_P D vwCl (XW cI a ((3 * i) + 1) n st ik td nd nh bs ktd knd knh kbs (upd (pgM x z pg i) (3 * i) (nI (kL (sk x i)))) kd ag pa bo dm dn hh hn kag kpa kbo kdm kdn khh khn wb ps ty) _ := P_X hP
                  refine wrSi (As := [.ref (a 0), .int (nI (48 + (sa z i)))]) (rest := []) hx hb hml hown hg (c_L_put l D cI cB aS _ ((3 * i) + 1) n st ik td nd nh bs ktd knd knh kbs (upd (pgM x z pg i) (3 * i) (nI (kL (sk x i)))) kd ag pa bo dm dn hh hn kag kpa kbo kdm kdn khh khn wb ps ty (48 + (sa z i)) ((D_X hD).weaken (fun _ _ _ _ => trivial)) (by first | assumption | omega) (by first | assumption | omega) (by first | assumption | omega)) gm_237 sf_L_put ⟨Nat.le_of_ble_eq_true rfl, Nat.le_of_ble_eq_true rfl⟩ ⟨rfl, rfl⟩ ⟨Nat.zero_le _, Nat.zero_le _⟩ (RP.preS hK hP_64) rfl hl.1 rfl (Nat.le_of_ble_eq_true rfl) dL_street_167 hS (inW_all (D_X hD)) (fun r_65 u_65 H1 locs hpo_65 hP1 hk1 hS => ?_)
                  have hP : va_P D vwCl (ZW cI cB a y (((3 * i) + 1) + 1) n st ik td nd nh bs ktd knd knh kbs (upd (upd (pgM x z pg i) (3 * i) (nI (kL (sk x i)))) ((3 * i) + 1) (nI (48 + (sa z i)))) kd ag pa bo dm dn hh hn kag kpa kbo kdm kdn khh khn wb ps ty (upd (upd (upd (sW x z wa i) (3 + (3 * i)) (nI (sk x i))) (4 + (3 * i)) (nI (sa z i))) (5 + (3 * i)) (nI 0)) wc ga tt ow) H1 := zx_join hP hD hP1 hk1
                  have hD : va_D A (ZW cI cB a y (((3 * i) + 1) + 1) n st ik td nd nh bs ktd knd knh kbs (upd (upd (pgM x z pg i) (3 * i) (nI (kL (sk x i)))) ((3 * i) + 1) (nI (48 + (sa z i)))) kd ag pa bo dm dn hh hn kag kpa kbo kdm kdn khh khn wb ps ty (upd (upd (upd (sW x z wa i) (3 + (3 * i)) (nI (sk x i))) (4 + (3 * i)) (nI (sa z i))) (5 + (3 * i)) (nI 0)) wc ga tt ow) := hD.addr (ZW_addr.trans ZW_addr.symm)
                  clear hP1 hk1
                  generalize H1 = H at hP hS ⊢
                  have hpo_65 : r_65 = (nI 1) := hpo_65
                  subst hpo_65
                  have e_66 : ((3 * i) + 1) + 1 = plL (i + 1) := plL_1 i
                  rw [e_66] at hP hD
                  have hP : va_P D vwCl (ZW cI cB a y (plL (i + 1)) n st ik td nd nh bs ktd knd knh kbs (upd (upd (pgM x z pg i) (3 * i) (nI (kL (sk x i)))) ((3 * i) + 1) (nI (48 + (sa z i)))) kd ag pa bo dm dn hh hn kag kpa kbo kdm kdn khh khn wb ps ty (upd (upd (upd (sW x z wa i) (3 + (3 * i)) (nI (sk x i))) (4 + (3 * i)) (nI (sa z i))) (5 + (3 * i)) (nI 0)) wc ga tt ow) H := hP
                  have hD : va_D A (ZW cI cB a y (plL (i + 1)) n st ik td nd nh bs ktd knd knh kbs (upd (upd (pgM x z pg i) (3 * i) (nI (kL (sk x i)))) ((3 * i) + 1) (nI (48 + (sa z i)))) kd ag pa bo dm dn hh hn kag kpa kbo kdm kdn khh khn wb ps ty (upd (upd (upd (sW x z wa i) (3 + (3 * i)) (nI (sk x i))) (4 + (3 * i)) (nI (sa z i))) (5 + (3 * i)) (nI 0)) wc ga tt ow) := hD
                  have e_67 : upd (upd (pgM x z pg i) (3 * i) (nI (kL (sk x i)))) ((3 * i) + 1) (nI (48 + (sa z i))) = pgL x z pg (i + 1) := pgL_s
                  rw [e_67] at hP hD
                  have hP : va_P D vwCl (ZW cI cB a y (plL (i + 1)) n st ik td nd nh bs ktd knd knh kbs (pgL x z pg (i + 1)) kd ag pa bo dm dn hh hn kag kpa kbo kdm kdn khh khn wb ps ty (upd (upd (upd (sW x z wa i) (3 + (3 * i)) (nI (sk x i))) (4 + (3 * i)) (nI (sa z i))) (5 + (3 * i)) (nI 0)) wc ga tt ow) H := hP
                  have hD : va_D A (ZW cI cB a y (plL (i + 1)) n st ik td nd nh bs ktd knd knh kbs (pgL x z pg (i + 1)) kd ag pa bo dm dn hh hn kag kpa kbo kdm kdn khh khn wb ps ty (upd (upd (upd (sW x z wa i) (3 + (3 * i)) (nI (sk x i))) (4 + (3 * i)) (nI (sa z i))) (5 + (3 * i)) (nI 0)) wc ga tt ow) := hD
                  refine nv_if_eq (tgt := 177) hx hb dL_street_170 (by omega) (by decide) (fun c_170 => ?_) (fun c_170 => ?_)
                  · exact absurd c_170 (by decide)
                  · skip
                    refine lv_iconst (v := (nI 1)) hx hb dL_street_173 (by decide) ?_
                    refine lv_goto (tgt := 178) hx hb dL_street_174 (by decide) ?_
                    refine lv_istore (lv' := [(4, .int (nI 1)), (6, .int (nI (sk x i))), (0, .ref (a 0)), (1, .int (nI x)), (2, .int (nI z)), (3, .ref (y 0)), (5, .int (nI i))]) hx hb dL_street_178 hl (by decide) rfl (fun ls hl => ?_)
                    refine lv_iinc (v := (nI (i + 1))) (lv' := [(5, .int (nI (i + 1))), (4, .int (nI 1)), (6, .int (nI (sk x i))), (0, .ref (a 0)), (1, .int (nI x)), (2, .int (nI z)), (3, .ref (y 0))]) hx hb dL_street_180 hl (k := 6) rfl (nI_i1 _) (by decide) rfl (fun ls hl => ?_)
                    refine lv_goto (tgt := 22) hx hb dL_street_183 (by decide) ?_
                    exact ih_22 () _ _ _ (by omega) (trivial) (lv_sub hl [3, 4, 5, 6, 1, 0] rfl) hP (hD.addr (ZW_addr.trans ZW_addr.symm)) hS
            · skip
              refine lv_bipush (v := (nI 116)) hx hb dL_street_120 (by decide) ?_
              refine lv_goto (tgt := 149) hx hb dL_street_122 (by decide) ?_
              have hP_68 : va_P D vwCl (XW cI a (3 * i) n st ik td nd nh bs ktd knd knh kbs (pgM x z pg i) kd ag pa bo dm dn hh hn kag kpa kbo kdm kdn khh khn wb ps ty) _ := P_X hP
              refine wrSi (As := [.ref (a 0), .int (nI 116)]) (rest := []) hx hb hml hown hg (c_L_put l D cI cB aS _ (3 * i) n st ik td nd nh bs ktd knd knh kbs (pgM x z pg i) kd ag pa bo dm dn hh hn kag kpa kbo kdm kdn khh khn wb ps ty 116 ((D_X hD).weaken (fun _ _ _ _ => trivial)) (by first | assumption | omega) (by first | assumption | omega) (by first | assumption | omega)) gm_237 sf_L_put ⟨Nat.le_of_ble_eq_true rfl, Nat.le_of_ble_eq_true rfl⟩ ⟨rfl, rfl⟩ ⟨Nat.zero_le _, Nat.zero_le _⟩ (RP.preS hK hP_68) rfl hl.1 rfl (Nat.le_of_ble_eq_true rfl) dL_street_149 hS (inW_all (D_X hD)) (fun r_69 u_69 H1 locs hpo_69 hP1 hk1 hS => ?_)
              have hP : va_P D vwCl (ZW cI cB a y ((3 * i) + 1) n st ik td nd nh bs ktd knd knh kbs (upd (pgM x z pg i) (3 * i) (nI 116)) kd ag pa bo dm dn hh hn kag kpa kbo kdm kdn khh khn wb ps ty (upd (upd (upd (sW x z wa i) (3 + (3 * i)) (nI (sk x i))) (4 + (3 * i)) (nI (sa z i))) (5 + (3 * i)) (nI 0)) wc ga tt ow) H1 := zx_join hP hD hP1 hk1
              have hD : va_D A (ZW cI cB a y ((3 * i) + 1) n st ik td nd nh bs ktd knd knh kbs (upd (pgM x z pg i) (3 * i) (nI 116)) kd ag pa bo dm dn hh hn kag kpa kbo kdm kdn khh khn wb ps ty (upd (upd (upd (sW x z wa i) (3 + (3 * i)) (nI (sk x i))) (4 + (3 * i)) (nI (sa z i))) (5 + (3 * i)) (nI 0)) wc ga tt ow) := hD.addr (ZW_addr.trans ZW_addr.symm)
              clear hP1 hk1
              generalize H1 = H at hP hS ⊢
              have hpo_69 : r_69 = (nI 1) := hpo_69
              subst hpo_69
              have e_70 : upd (pgM x z pg i) (3 * i) (nI 116) = upd (pgM x z pg i) (3 * i) (nI (kL (sk x i))) := (by first | rw [kL_0 c_106] | rw [kL_1 c_117] | rw [kL_2 c_128] | rw [kL_3 c_139] | rw [kL_4 sk_lt c_106 c_117 c_128 c_139])
              rw [e_70] at hP hD
              have hP : va_P D vwCl (ZW cI cB a y ((3 * i) + 1) n st ik td nd nh bs ktd knd knh kbs (upd (pgM x z pg i) (3 * i) (nI (kL (sk x i)))) kd ag pa bo dm dn hh hn kag kpa kbo kdm kdn khh khn wb ps ty (upd (upd (upd (sW x z wa i) (3 + (3 * i)) (nI (sk x i))) (4 + (3 * i)) (nI (sa z i))) (5 + (3 * i)) (nI 0)) wc ga tt ow) H := hP
              have hD : va_D A (ZW cI cB a y ((3 * i) + 1) n st ik td nd nh bs ktd knd knh kbs (upd (pgM x z pg i) (3 * i) (nI (kL (sk x i)))) kd ag pa bo dm dn hh hn kag kpa kbo kdm kdn khh khn wb ps ty (upd (upd (upd (sW x z wa i) (3 + (3 * i)) (nI (sk x i))) (4 + (3 * i)) (nI (sa z i))) (5 + (3 * i)) (nI 0)) wc ga tt ow) := hD
              refine nv_if_eq (tgt := 177) hx hb dL_street_152 (by omega) (by decide) (fun c_152 => ?_) (fun c_152 => ?_)
              · exact absurd c_152 (by decide)
              · skip
                refine lv_aload_n hx hb dL_street_155 rfl (lv_at hl 1 rfl) ?_
                refine lv_bipush (v := (nI 48)) hx hb dL_street_156 (by decide) ?_
                refine lv_aload_n hx hb dL_street_158 rfl (lv_at hl 4 rfl) ?_
                refine lv_iconst (v := (nI 4)) hx hb dL_street_159 (by decide) ?_
                refine lv_iconst (v := (nI 3)) hx hb dL_street_160 (by decide) ?_
                refine lv_iload hx hb dL_street_161 (lv_at hl 6 rfl) ?_
                refine nv_imul hx hb dL_street_163 ?_
                refine nv_iadd hx hb dL_street_164 ?_
                refine nv_iald hx hb hK.1 hP 41 0 ZW_g41 rfl (by omega) (by omega) dL_street_165 ?_
                rw [show (((upd (upd (upd (sW x z wa i) (3 + (3 * i)) (nI (sk x i))) (4 + (3 * i)) (nI (sa z i))) (5 + (3 * i)) (nI 0)) (4 + (3 * i))) : Int32) = (nI (sa z i)) from by rw [pk_un (by omega), pk_us]]
                refine nv_iadd hx hb dL_street_166 ?_
                have hP_71 : va_P D vwCl (XW cI a ((3 * i) + 1) n st ik td nd nh bs ktd knd knh kbs (upd (pgM x z pg i) (3 * i) (nI (kL (sk x i)))) kd ag pa bo dm dn hh hn kag kpa kbo kdm kdn khh khn wb ps ty) _ := P_X hP
                refine wrSi (As := [.ref (a 0), .int (nI (48 + (sa z i)))]) (rest := []) hx hb hml hown hg (c_L_put l D cI cB aS _ ((3 * i) + 1) n st ik td nd nh bs ktd knd knh kbs (upd (pgM x z pg i) (3 * i) (nI (kL (sk x i)))) kd ag pa bo dm dn hh hn kag kpa kbo kdm kdn khh khn wb ps ty (48 + (sa z i)) ((D_X hD).weaken (fun _ _ _ _ => trivial)) (by first | assumption | omega) (by first | assumption | omega) (by first | assumption | omega)) gm_237 sf_L_put ⟨Nat.le_of_ble_eq_true rfl, Nat.le_of_ble_eq_true rfl⟩ ⟨rfl, rfl⟩ ⟨Nat.zero_le _, Nat.zero_le _⟩ (RP.preS hK hP_71) rfl hl.1 rfl (Nat.le_of_ble_eq_true rfl) dL_street_167 hS (inW_all (D_X hD)) (fun r_72 u_72 H1 locs hpo_72 hP1 hk1 hS => ?_)
                have hP : va_P D vwCl (ZW cI cB a y (((3 * i) + 1) + 1) n st ik td nd nh bs ktd knd knh kbs (upd (upd (pgM x z pg i) (3 * i) (nI (kL (sk x i)))) ((3 * i) + 1) (nI (48 + (sa z i)))) kd ag pa bo dm dn hh hn kag kpa kbo kdm kdn khh khn wb ps ty (upd (upd (upd (sW x z wa i) (3 + (3 * i)) (nI (sk x i))) (4 + (3 * i)) (nI (sa z i))) (5 + (3 * i)) (nI 0)) wc ga tt ow) H1 := zx_join hP hD hP1 hk1
                have hD : va_D A (ZW cI cB a y (((3 * i) + 1) + 1) n st ik td nd nh bs ktd knd knh kbs (upd (upd (pgM x z pg i) (3 * i) (nI (kL (sk x i)))) ((3 * i) + 1) (nI (48 + (sa z i)))) kd ag pa bo dm dn hh hn kag kpa kbo kdm kdn khh khn wb ps ty (upd (upd (upd (sW x z wa i) (3 + (3 * i)) (nI (sk x i))) (4 + (3 * i)) (nI (sa z i))) (5 + (3 * i)) (nI 0)) wc ga tt ow) := hD.addr (ZW_addr.trans ZW_addr.symm)
                clear hP1 hk1
                generalize H1 = H at hP hS ⊢
                have hpo_72 : r_72 = (nI 1) := hpo_72
                subst hpo_72
                have e_73 : ((3 * i) + 1) + 1 = plL (i + 1) := plL_1 i
                rw [e_73] at hP hD
                have hP : va_P D vwCl (ZW cI cB a y (plL (i + 1)) n st ik td nd nh bs ktd knd knh kbs (upd (upd (pgM x z pg i) (3 * i) (nI (kL (sk x i)))) ((3 * i) + 1) (nI (48 + (sa z i)))) kd ag pa bo dm dn hh hn kag kpa kbo kdm kdn khh khn wb ps ty (upd (upd (upd (sW x z wa i) (3 + (3 * i)) (nI (sk x i))) (4 + (3 * i)) (nI (sa z i))) (5 + (3 * i)) (nI 0)) wc ga tt ow) H := hP
                have hD : va_D A (ZW cI cB a y (plL (i + 1)) n st ik td nd nh bs ktd knd knh kbs (upd (upd (pgM x z pg i) (3 * i) (nI (kL (sk x i)))) ((3 * i) + 1) (nI (48 + (sa z i)))) kd ag pa bo dm dn hh hn kag kpa kbo kdm kdn khh khn wb ps ty (upd (upd (upd (sW x z wa i) (3 + (3 * i)) (nI (sk x i))) (4 + (3 * i)) (nI (sa z i))) (5 + (3 * i)) (nI 0)) wc ga tt ow) := hD
                have e_74 : upd (upd (pgM x z pg i) (3 * i) (nI (kL (sk x i)))) ((3 * i) + 1) (nI (48 + (sa z i))) = pgL x z pg (i + 1) := pgL_s
                rw [e_74] at hP hD
                have hP : va_P D vwCl (ZW cI cB a y (plL (i + 1)) n st ik td nd nh bs ktd knd knh kbs (pgL x z pg (i + 1)) kd ag pa bo dm dn hh hn kag kpa kbo kdm kdn khh khn wb ps ty (upd (upd (upd (sW x z wa i) (3 + (3 * i)) (nI (sk x i))) (4 + (3 * i)) (nI (sa z i))) (5 + (3 * i)) (nI 0)) wc ga tt ow) H := hP
                have hD : va_D A (ZW cI cB a y (plL (i + 1)) n st ik td nd nh bs ktd knd knh kbs (pgL x z pg (i + 1)) kd ag pa bo dm dn hh hn kag kpa kbo kdm kdn khh khn wb ps ty (upd (upd (upd (sW x z wa i) (3 + (3 * i)) (nI (sk x i))) (4 + (3 * i)) (nI (sa z i))) (5 + (3 * i)) (nI 0)) wc ga tt ow) := hD
                refine nv_if_eq (tgt := 177) hx hb dL_street_170 (by omega) (by decide) (fun c_170 => ?_) (fun c_170 => ?_)
                · exact absurd c_170 (by decide)
                · skip
                  refine lv_iconst (v := (nI 1)) hx hb dL_street_173 (by decide) ?_
                  refine lv_goto (tgt := 178) hx hb dL_street_174 (by decide) ?_
                  refine lv_istore (lv' := [(4, .int (nI 1)), (6, .int (nI (sk x i))), (0, .ref (a 0)), (1, .int (nI x)), (2, .int (nI z)), (3, .ref (y 0)), (5, .int (nI i))]) hx hb dL_street_178 hl (by decide) rfl (fun ls hl => ?_)
                  refine lv_iinc (v := (nI (i + 1))) (lv' := [(5, .int (nI (i + 1))), (4, .int (nI 1)), (6, .int (nI (sk x i))), (0, .ref (a 0)), (1, .int (nI x)), (2, .int (nI z)), (3, .ref (y 0))]) hx hb dL_street_180 hl (k := 6) rfl (nI_i1 _) (by decide) rfl (fun ls hl => ?_)
                  refine lv_goto (tgt := 22) hx hb dL_street_183 (by decide) ?_
                  exact ih_22 () _ _ _ (by omega) (trivial) (lv_sub hl [3, 4, 5, 6, 1, 0] rfl) hP (hD.addr (ZW_addr.trans ZW_addr.symm)) hS
          · skip
            refine lv_bipush (v := (nI 104)) hx hb dL_street_109 (by decide) ?_
            refine lv_goto (tgt := 149) hx hb dL_street_111 (by decide) ?_
            have hP_75 : va_P D vwCl (XW cI a (3 * i) n st ik td nd nh bs ktd knd knh kbs (pgM x z pg i) kd ag pa bo dm dn hh hn kag kpa kbo kdm kdn khh khn wb ps ty) _ := P_X hP
            refine wrSi (As := [.ref (a 0), .int (nI 104)]) (rest := []) hx hb hml hown hg (c_L_put l D cI cB aS _ (3 * i) n st ik td nd nh bs ktd knd knh kbs (pgM x z pg i) kd ag pa bo dm dn hh hn kag kpa kbo kdm kdn khh khn wb ps ty 104 ((D_X hD).weaken (fun _ _ _ _ => trivial)) (by first | assumption | omega) (by first | assumption | omega) (by first | assumption | omega)) gm_237 sf_L_put ⟨Nat.le_of_ble_eq_true rfl, Nat.le_of_ble_eq_true rfl⟩ ⟨rfl, rfl⟩ ⟨Nat.zero_le _, Nat.zero_le _⟩ (RP.preS hK hP_75) rfl hl.1 rfl (Nat.le_of_ble_eq_true rfl) dL_street_149 hS (inW_all (D_X hD)) (fun r_76 u_76 H1 locs hpo_76 hP1 hk1 hS => ?_)
            have hP : va_P D vwCl (ZW cI cB a y ((3 * i) + 1) n st ik td nd nh bs ktd knd knh kbs (upd (pgM x z pg i) (3 * i) (nI 104)) kd ag pa bo dm dn hh hn kag kpa kbo kdm kdn khh khn wb ps ty (upd (upd (upd (sW x z wa i) (3 + (3 * i)) (nI (sk x i))) (4 + (3 * i)) (nI (sa z i))) (5 + (3 * i)) (nI 0)) wc ga tt ow) H1 := zx_join hP hD hP1 hk1
            have hD : va_D A (ZW cI cB a y ((3 * i) + 1) n st ik td nd nh bs ktd knd knh kbs (upd (pgM x z pg i) (3 * i) (nI 104)) kd ag pa bo dm dn hh hn kag kpa kbo kdm kdn khh khn wb ps ty (upd (upd (upd (sW x z wa i) (3 + (3 * i)) (nI (sk x i))) (4 + (3 * i)) (nI (sa z i))) (5 + (3 * i)) (nI 0)) wc ga tt ow) := hD.addr (ZW_addr.trans ZW_addr.symm)
            clear hP1 hk1
            generalize H1 = H at hP hS ⊢
            have hpo_76 : r_76 = (nI 1) := hpo_76
            subst hpo_76
            have e_77 : upd (pgM x z pg i) (3 * i) (nI 104) = upd (pgM x z pg i) (3 * i) (nI (kL (sk x i))) := (by first | rw [kL_0 c_106] | rw [kL_1 c_117] | rw [kL_2 c_128] | rw [kL_3 c_139] | rw [kL_4 sk_lt c_106 c_117 c_128 c_139])
            rw [e_77] at hP hD
            have hP : va_P D vwCl (ZW cI cB a y ((3 * i) + 1) n st ik td nd nh bs ktd knd knh kbs (upd (pgM x z pg i) (3 * i) (nI (kL (sk x i)))) kd ag pa bo dm dn hh hn kag kpa kbo kdm kdn khh khn wb ps ty (upd (upd (upd (sW x z wa i) (3 + (3 * i)) (nI (sk x i))) (4 + (3 * i)) (nI (sa z i))) (5 + (3 * i)) (nI 0)) wc ga tt ow) H := hP
            have hD : va_D A (ZW cI cB a y ((3 * i) + 1) n st ik td nd nh bs ktd knd knh kbs (upd (pgM x z pg i) (3 * i) (nI (kL (sk x i)))) kd ag pa bo dm dn hh hn kag kpa kbo kdm kdn khh khn wb ps ty (upd (upd (upd (sW x z wa i) (3 + (3 * i)) (nI (sk x i))) (4 + (3 * i)) (nI (sa z i))) (5 + (3 * i)) (nI 0)) wc ga tt ow) := hD
            refine nv_if_eq (tgt := 177) hx hb dL_street_152 (by omega) (by decide) (fun c_152 => ?_) (fun c_152 => ?_)
            · exact absurd c_152 (by decide)
            · skip
              refine lv_aload_n hx hb dL_street_155 rfl (lv_at hl 1 rfl) ?_
              refine lv_bipush (v := (nI 48)) hx hb dL_street_156 (by decide) ?_
              refine lv_aload_n hx hb dL_street_158 rfl (lv_at hl 4 rfl) ?_
              refine lv_iconst (v := (nI 4)) hx hb dL_street_159 (by decide) ?_
              refine lv_iconst (v := (nI 3)) hx hb dL_street_160 (by decide) ?_
              refine lv_iload hx hb dL_street_161 (lv_at hl 6 rfl) ?_
              refine nv_imul hx hb dL_street_163 ?_
              refine nv_iadd hx hb dL_street_164 ?_
              refine nv_iald hx hb hK.1 hP 41 0 ZW_g41 rfl (by omega) (by omega) dL_street_165 ?_
              rw [show (((upd (upd (upd (sW x z wa i) (3 + (3 * i)) (nI (sk x i))) (4 + (3 * i)) (nI (sa z i))) (5 + (3 * i)) (nI 0)) (4 + (3 * i))) : Int32) = (nI (sa z i)) from by rw [pk_un (by omega), pk_us]]
              refine nv_iadd hx hb dL_street_166 ?_
              have hP_78 : va_P D vwCl (XW cI a ((3 * i) + 1) n st ik td nd nh bs ktd knd knh kbs (upd (pgM x z pg i) (3 * i) (nI (kL (sk x i)))) kd ag pa bo dm dn hh hn kag kpa kbo kdm kdn khh khn wb ps ty) _ := P_X hP
              refine wrSi (As := [.ref (a 0), .int (nI (48 + (sa z i)))]) (rest := []) hx hb hml hown hg (c_L_put l D cI cB aS _ ((3 * i) + 1) n st ik td nd nh bs ktd knd knh kbs (upd (pgM x z pg i) (3 * i) (nI (kL (sk x i)))) kd ag pa bo dm dn hh hn kag kpa kbo kdm kdn khh khn wb ps ty (48 + (sa z i)) ((D_X hD).weaken (fun _ _ _ _ => trivial)) (by first | assumption | omega) (by first | assumption | omega) (by first | assumption | omega)) gm_237 sf_L_put ⟨Nat.le_of_ble_eq_true rfl, Nat.le_of_ble_eq_true rfl⟩ ⟨rfl, rfl⟩ ⟨Nat.zero_le _, Nat.zero_le _⟩ (RP.preS hK hP_78) rfl hl.1 rfl (Nat.le_of_ble_eq_true rfl) dL_street_167 hS (inW_all (D_X hD)) (fun r_79 u_79 H1 locs hpo_79 hP1 hk1 hS => ?_)
              have hP : va_P D vwCl (ZW cI cB a y (((3 * i) + 1) + 1) n st ik td nd nh bs ktd knd knh kbs (upd (upd (pgM x z pg i) (3 * i) (nI (kL (sk x i)))) ((3 * i) + 1) (nI (48 + (sa z i)))) kd ag pa bo dm dn hh hn kag kpa kbo kdm kdn khh khn wb ps ty (upd (upd (upd (sW x z wa i) (3 + (3 * i)) (nI (sk x i))) (4 + (3 * i)) (nI (sa z i))) (5 + (3 * i)) (nI 0)) wc ga tt ow) H1 := zx_join hP hD hP1 hk1
              have hD : va_D A (ZW cI cB a y (((3 * i) + 1) + 1) n st ik td nd nh bs ktd knd knh kbs (upd (upd (pgM x z pg i) (3 * i) (nI (kL (sk x i)))) ((3 * i) + 1) (nI (48 + (sa z i)))) kd ag pa bo dm dn hh hn kag kpa kbo kdm kdn khh khn wb ps ty (upd (upd (upd (sW x z wa i) (3 + (3 * i)) (nI (sk x i))) (4 + (3 * i)) (nI (sa z i))) (5 + (3 * i)) (nI 0)) wc ga tt ow) := hD.addr (ZW_addr.trans ZW_addr.symm)
              clear hP1 hk1
              generalize H1 = H at hP hS ⊢
              have hpo_79 : r_79 = (nI 1) := hpo_79
              subst hpo_79
              have e_80 : ((3 * i) + 1) + 1 = plL (i + 1) := plL_1 i
              rw [e_80] at hP hD
              have hP : va_P D vwCl (ZW cI cB a y (plL (i + 1)) n st ik td nd nh bs ktd knd knh kbs (upd (upd (pgM x z pg i) (3 * i) (nI (kL (sk x i)))) ((3 * i) + 1) (nI (48 + (sa z i)))) kd ag pa bo dm dn hh hn kag kpa kbo kdm kdn khh khn wb ps ty (upd (upd (upd (sW x z wa i) (3 + (3 * i)) (nI (sk x i))) (4 + (3 * i)) (nI (sa z i))) (5 + (3 * i)) (nI 0)) wc ga tt ow) H := hP
              have hD : va_D A (ZW cI cB a y (plL (i + 1)) n st ik td nd nh bs ktd knd knh kbs (upd (upd (pgM x z pg i) (3 * i) (nI (kL (sk x i)))) ((3 * i) + 1) (nI (48 + (sa z i)))) kd ag pa bo dm dn hh hn kag kpa kbo kdm kdn khh khn wb ps ty (upd (upd (upd (sW x z wa i) (3 + (3 * i)) (nI (sk x i))) (4 + (3 * i)) (nI (sa z i))) (5 + (3 * i)) (nI 0)) wc ga tt ow) := hD
              have e_81 : upd (upd (pgM x z pg i) (3 * i) (nI (kL (sk x i)))) ((3 * i) + 1) (nI (48 + (sa z i))) = pgL x z pg (i + 1) := pgL_s
              rw [e_81] at hP hD
              have hP : va_P D vwCl (ZW cI cB a y (plL (i + 1)) n st ik td nd nh bs ktd knd knh kbs (pgL x z pg (i + 1)) kd ag pa bo dm dn hh hn kag kpa kbo kdm kdn khh khn wb ps ty (upd (upd (upd (sW x z wa i) (3 + (3 * i)) (nI (sk x i))) (4 + (3 * i)) (nI (sa z i))) (5 + (3 * i)) (nI 0)) wc ga tt ow) H := hP
              have hD : va_D A (ZW cI cB a y (plL (i + 1)) n st ik td nd nh bs ktd knd knh kbs (pgL x z pg (i + 1)) kd ag pa bo dm dn hh hn kag kpa kbo kdm kdn khh khn wb ps ty (upd (upd (upd (sW x z wa i) (3 + (3 * i)) (nI (sk x i))) (4 + (3 * i)) (nI (sa z i))) (5 + (3 * i)) (nI 0)) wc ga tt ow) := hD
              refine nv_if_eq (tgt := 177) hx hb dL_street_170 (by omega) (by decide) (fun c_170 => ?_) (fun c_170 => ?_)
              · exact absurd c_170 (by decide)
              · skip
                refine lv_iconst (v := (nI 1)) hx hb dL_street_173 (by decide) ?_
                refine lv_goto (tgt := 178) hx hb dL_street_174 (by decide) ?_
                refine lv_istore (lv' := [(4, .int (nI 1)), (6, .int (nI (sk x i))), (0, .ref (a 0)), (1, .int (nI x)), (2, .int (nI z)), (3, .ref (y 0)), (5, .int (nI i))]) hx hb dL_street_178 hl (by decide) rfl (fun ls hl => ?_)
                refine lv_iinc (v := (nI (i + 1))) (lv' := [(5, .int (nI (i + 1))), (4, .int (nI 1)), (6, .int (nI (sk x i))), (0, .ref (a 0)), (1, .int (nI x)), (2, .int (nI z)), (3, .ref (y 0))]) hx hb dL_street_180 hl (k := 6) rfl (nI_i1 _) (by decide) rfl (fun ls hl => ?_)
                refine lv_goto (tgt := 22) hx hb dL_street_183 (by decide) ?_
                exact ih_22 () _ _ _ (by omega) (trivial) (lv_sub hl [3, 4, 5, 6, 1, 0] rfl) hP (hD.addr (ZW_addr.trans ZW_addr.symm)) hS
