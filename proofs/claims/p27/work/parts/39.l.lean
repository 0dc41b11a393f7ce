abbrev rm_L_act : Room := { frames := 4, cells := 0, slots := 0, locals := 85 }
theorem sf_L_pass : sfacts RL yL_pass cL_pass 2 none 1 := ⟨⟨rfl, by decide +kernel, by decide +kernel, by decide +kernel⟩, gm_326, gm_1, gm_327⟩
theorem vf_X2_day : vfacts RX2 yX2_day cX2_day 2 (some .int) 0 := ⟨⟨rfl, by decide +kernel, by decide +kernel, by decide +kernel⟩, gm_151, gm_152, gm_2, gm_153⟩
theorem sf_L_bears : sfacts RL yL_bears cL_bears 2 (some .boolean) 2 := ⟨⟨rfl, by decide +kernel, by decide +kernel, by decide +kernel⟩, gm_329, gm_1, gm_330⟩
theorem sf_L_bear : sfacts RL yL_bear cL_bear 3 (some .int) 2 := ⟨⟨rfl, by decide +kernel, by decide +kernel, by decide +kernel⟩, gm_332, gm_1, gm_333⟩
theorem vf_X2_birth : vfacts RX2 yX2_birth cX2_birth 2 (some .int) 1 := ⟨⟨rfl, by decide +kernel, by decide +kernel, by decide +kernel⟩, gm_131, gm_132, gm_2, gm_133⟩
set_option maxRecDepth 100000 in
set_option maxHeartbeats 4000000 in
theorem c_L_act (l : Launch) (D : va_G) (cI cB : ClassId) (aS : Nat) (a y : Nat → Nat) (pl n st : Nat) (ik : Int32) (td nd nh : Nat) (bs : Int32) (ktd knd knh : Nat) (kbs : Int32) (pg kd ag pa bo dm dn hh hn kag kpa kbo kdm kdn khh khn wb ps ty : Nat → Int32) (wa wc : Nat → Int32) (ga : Nat → Int64) (tt ow : Nat → Int32) (x : Nat) (hD0 : va_D (fun _ => True) (ZW cI cB a y pl n st ik td nd nh bs ktd knd knh kbs pg kd ag pa bo dm dn hh hn kag kpa kbo kdm kdn khh khn wb ps ty wa wc ga tt ow)) (qx : x < 2147483648) (hzI : zI n td bs kd ag pa bo wa ga) : Met l yL_act (mw yL_act cL_act 7 (some .boolean)) rm_L_act (RP D cI cB aS (ZW cI cB a y pl n st ik td nd nh bs ktd knd knh kbs pg kd ag pa bo dm dn hh hn kag kpa kbo kdm kdn khh khn wb ps ty wa wc ga tt ow) [.ref (a 0), .int (nI x), .ref (y 0), .ref (y 2)]) (wq mkI (ZW cI cB a y pl n st ik td nd nh bs ktd knd knh kbs pg kd ag pa bo dm dn hh hn kag kpa kbo kdm kdn khh khn wb ps ty wa wc ga tt ow) (fun (u : Nat × Int32 × (Nat → Int32) × (Nat → Int32) × (Nat → Int32) × (Nat → Int32) × (Nat → Int64)) => ZW cI cB a y pl n st ik u.1 nd nh u.2.1 ktd knd knh kbs pg kd u.2.2.1 u.2.2.2.1 u.2.2.2.2.1 dm dn hh hn kag kpa kbo kdm kdn khh khn wb ps ty u.2.2.2.2.2.1 wc u.2.2.2.2.2.2 tt ow) D (fun (r : Int32) (u : Nat × Int32 × (Nat → Int32) × (Nat → Int32) × (Nat → Int32) × (Nat → Int32) × (Nat → Int64)) => r = nI 1 ∧ zI n u.1 u.2.1 kd u.2.2.1 u.2.2.2.1 u.2.2.2.2.1 u.2.2.2.2.2.1 u.2.2.2.2.2.2)) 0 0 (inW (ZW cI cB a y pl n st ik td nd nh bs ktd knd knh kbs pg kd ag pa bo dm dn hh hn kag kpa kbo kdm kdn khh khn wb ps ty wa wc ga tt ow)) := by
  refine met_of (by decide) (Nat.le_of_ble_eq_true rfl) ?_
  intro p e s m below meth c ls hx hb hr hml hown hg hlocks hin hK hP hl
  have hown : s.vm.findClass RL = some m.cls := hown
  have hl : lv_has ls 7 [(0, .ref (a 0)), (1, .int (nI x)), (2, .ref (y 0)), (3, .ref (y 2))] := hl
  have hD := hD0.here
  have hS0 : va_S (inW (ZW cI cB a y pl n st ik td nd nh bs ktd knd knh kbs pg kd ag pa bo dm dn hh hn kag kpa kbo kdm kdn khh khn wb ps ty wa wc ga tt ow)) s.heap s.heap [] := va_S.rf
  obtain ⟨H, hH⟩ : ∃ H, H = s.heap := ⟨_, rfl⟩
  have hS : va_S (inW (ZW cI cB a y pl n st ik td nd nh bs ktd knd knh kbs pg kd ag pa bo dm dn hh hn kag kpa kbo kdm kdn khh khn wb ps ty wa wc ga tt ow)) s.heap H [] := by rw [hH]; exact hS0
  clear hS0
  rw [← hH] at hP ⊢
  generalize hAe : inW (ZW cI cB a y pl n st ik td nd nh bs ktd knd knh kbs pg kd ag pa bo dm dn hh hn kag kpa kbo kdm kdn khh khn wb ps ty wa wc ga tt ow) = A at hD hS ⊢
  obtain ⟨h2n, hn6, qt, hw0, hw1, hw2, hho, hg9⟩ := id hzI
  refine lv_iload_n hx hb dL_act_0 rfl (lv_at hl 1 rfl) ?_
  refine lv_bipush (v := (nI 16)) hx hb dL_act_1 (by decide) ?_
  refine nv_irem hx hb dL_act_3 (by omega) (by omega) (by omega) ?_
  refine lv_bipush (v := (nI 7)) hx hb dL_act_4 (by decide) ?_
  refine nv_icmp_ge (tgt := 110) hx hb dL_act_6 (by omega) (by omega) (by decide) (fun c_6 => ?_) (fun c_6 => ?_)
  · skip
    refine lv_aload_n hx hb dL_act_110 rfl (lv_at hl 2 rfl) ?_
    refine lv_iconst (v := (nI 1)) hx hb dL_act_111 (by decide) ?_
    refine nv_iald hx hb hK.1 hP 41 0 ZW_g41 rfl (by omega) (by omega) dL_act_112 ?_
    rw [show ((wa 1) : Int32) = (nI td) from hw1]
    refine lv_bipush (v := (nI 30)) hx hb dL_act_113 (by decide) ?_
    refine nv_icmp_ne (tgt := 133) hx hb dL_act_115 (by omega) (by omega) (by decide) (fun c_115 => ?_) (fun c_115 => ?_)
    · skip
      refine lv_aload_n hx hb dL_act_133 rfl (lv_at hl 3 rfl) ?_
      refine lv_aload_n hx hb dL_act_134 rfl (lv_at hl 2 rfl) ?_
      refine lv_iconst (v := (nI 1)) hx hb dL_act_135 (by decide) ?_
      refine nv_iald hx hb hK.1 hP 41 0 ZW_g41 rfl (by omega) (by omega) dL_act_136 ?_
      rw [show ((wa 1) : Int32) = (nI td) from hw1]
      refine lv_lconst (v := 0) hx hb dL_act_137 rfl ?_
      refine nv_last hx hb hK.1 hP hD hS 43 1 ZW_g43 rfl (by omega) (by omega) dL_act_138 (fun H locs hP hD hS => ?_)
      have hP : va_P D vwCl (ZW cI cB a y pl n st ik td nd nh bs ktd knd knh kbs pg kd ag pa bo dm dn hh hn kag kpa kbo kdm kdn khh khn wb ps ty wa wc (vp_updL ga td (0 : Int64)) tt ow) H := P_eq hP ZW_s43
      have hD : va_D A (ZW cI cB a y pl n st ik td nd nh bs ktd knd knh kbs pg kd ag pa bo dm dn hh hn kag kpa kbo kdm kdn khh khn wb ps ty wa wc (vp_updL ga td (0 : Int64)) tt ow) := D_eq hD ZW_s43
      refine lv_iconst (v := (nI 0)) hx hb dL_act_139 (by decide) ?_
      refine lv_istore (lv' := [(4, .int (nI 0)), (0, .ref (a 0)), (1, .int (nI x)), (2, .ref (y 0)), (3, .ref (y 2))]) hx hb dL_act_140 hl (by decide) rfl (fun ls hl => ?_)
      -- loop at 142
      refine loopW (nL := 7) (S := Unit) (B := n) (I := fun i u => True) (lv := fun i u => [(0, .ref (a 0)), (1, .int (nI x)), (2, .ref (y 0)), (3, .ref (y 2)), (4, .int (nI i))]) (wf := fun i u => ZW cI cB a y pl n st ik td nd nh bs ktd knd knh kbs pg kd ag pa bo dm dn hh hn kag kpa kbo kdm kdn khh khn wb ps ty wa wc (gbF ga wa td i) tt ow) 0 () (Nat.zero_le _) (trivial) (lv_sub hl [1, 2, 3, 4, 0] rfl) hP (hD.addr (ZW_addr.trans ZW_addr.symm)) hS (fun i u ls H locs hj hI hl hP hD hS ih => ?_)
      have hP : va_P D vwCl (ZW cI cB a y pl n st ik td nd nh bs ktd knd knh kbs pg kd ag pa bo dm dn hh hn kag kpa kbo kdm kdn khh khn wb ps ty wa wc (gbF ga wa td i) tt ow) H := hP
      have hD : va_D A (ZW cI cB a y pl n st ik td nd nh bs ktd knd knh kbs pg kd ag pa bo dm dn hh hn kag kpa kbo kdm kdn khh khn wb ps ty wa wc (gbF ga wa td i) tt ow) := hD
      have hl : lv_has ls 7 [(0, .ref (a 0)), (1, .int (nI x)), (2, .ref (y 0)), (3, .ref (y 2)), (4, .int (nI i))] := hl
      have ih_142 := ih
      refine lv_iload hx hb dL_act_142 (lv_at hl 4 rfl) ?_
      refine lv_aload_n hx hb dL_act_144 rfl (lv_at hl 2 rfl) ?_
      refine lv_iconst (v := (nI 0)) hx hb dL_act_145 (by decide) ?_
      refine nv_iald hx hb hK.1 hP 41 0 ZW_g41 rfl (by omega) (by omega) dL_act_146 ?_
      rw [show ((wa 0) : Int32) = (nI n) from hw0]
      refine nv_icmp_ge (tgt := 179) hx hb dL_act_147 (by omega) (by omega) (by decide) (fun c_147 => ?_) (fun c_147 => ?_)
      · skip
        have ei : i = n := by omega
        rw [ei] at hP hD hl
        refine lv_aload_n hx hb dL_act_179 rfl (lv_at hl 2 rfl) ?_
        have hP_1 : va_P D vwCl [(y 0, .inl (cI, 21, .inl wa))] _ := P_s1 hP ZW_g41
        have hC_2 : ([41] : List Nat).map (fun q_ => (ZW cI cB a y pl n st ik td nd nh bs ktd knd knh kbs pg kd ag pa bo dm dn hh hn kag kpa kbo kdm kdn khh khn wb ps ty wa wc (gbF ga wa td n) tt ow : va_W)[q_]?) = List.map some ([(y 0, .inl (cI, 21, .inl wa))] : va_W) := M_s1 ZW_g41
        have hDc_2 : va_D (fun _ => True) [(y 0, .inl (cI, 21, .inl wa))] := (hD.sub (ws' := [(y 0, .inl (cI, 21, .inl wa))]) [41] (by decide) hC_2).weaken (fun _ _ _ _ => trivial)
        refine wrSv (As := [.ref (y 0)]) (rest := []) hx hb hml hown hg (c_L_pass l D cI cB aS (y 0) wa n hDc_2 (by first | assumption | omega) (by first | assumption | omega)) gm_325 sf_L_pass ⟨Nat.le_of_ble_eq_true rfl, Nat.le_of_ble_eq_true rfl⟩ ⟨rfl, rfl⟩ ⟨Nat.zero_le _, Nat.zero_le _⟩ (RP.preS hK hP_1) rfl hl.1 rfl (Nat.le_of_ble_eq_true rfl) dL_act_180 hS (inW_sub hD [41] hC_2) (fun u_3 H1 locs hpo_3 hP1 hk1 hS => ?_)
        have hP : va_P D vwCl (ZW cI cB a y pl n st ik td nd nh bs ktd knd knh kbs pg kd ag pa bo dm dn hh hn kag kpa kbo kdm kdn khh khn wb ps ty (psF wa n) wc (gbF ga wa td n) tt ow) H1 := P_eq (wjoin (wc := [(y 0, .inl (cI, 21, .inl wa))]) (w1 := [(y 0, .inl (cI, 21, .inl (psF wa n)))]) hP hD [41] hC_2 rfl hP1 hk1) ZW_s41
        have hD : va_D A (ZW cI cB a y pl n st ik td nd nh bs ktd knd knh kbs pg kd ag pa bo dm dn hh hn kag kpa kbo kdm kdn khh khn wb ps ty (psF wa n) wc (gbF ga wa td n) tt ow) := hD.addr (ZW_addr.trans ZW_addr.symm)
        clear hP1 hk1
        generalize H1 = H at hP hS ⊢
        refine lv_aload_n hx hb dL_act_183 rfl (lv_at hl 2 rfl) ?_
        refine lv_iconst (v := (nI 1)) hx hb dL_act_184 (by decide) ?_
        refine lv_dup2_11 hx hb dL_act_185 rfl rfl ?_
        refine nv_iald hx hb hK.1 hP 41 0 ZW_g41 rfl (by omega) (by omega) dL_act_186 ?_
        rw [show (((psF wa n) 1) : Int32) = (nI td) from by rw [psF_n (by omega)]; exact hw1]
        refine lv_iconst (v := (nI 1)) hx hb dL_act_187 (by decide) ?_
        refine nv_iadd hx hb dL_act_188 ?_
        refine nv_iast hx hb hK.1 hP hD hS 41 0 ZW_g41 rfl (by omega) (by omega) dL_act_189 (fun H locs hP hD hS => ?_)
        have hP : va_P D vwCl (ZW cI cB a y pl n st ik td nd nh bs ktd knd knh kbs pg kd ag pa bo dm dn hh hn kag kpa kbo kdm kdn khh khn wb ps ty (upd (psF wa n) 1 (nI (td + 1))) wc (gbF ga wa td n) tt ow) H := P_eq hP ZW_s41
        have hD : va_D A (ZW cI cB a y pl n st ik td nd nh bs ktd knd knh kbs pg kd ag pa bo dm dn hh hn kag kpa kbo kdm kdn khh khn wb ps ty (upd (psF wa n) 1 (nI (td + 1))) wc (gbF ga wa td n) tt ow) := D_eq hD ZW_s41
        refine lv_aload_n hx hb dL_act_190 rfl (lv_at hl 0 rfl) ?_
        have hP_4 : va_P D vwCl (XW cI a pl n st ik td nd nh bs ktd knd knh kbs pg kd ag pa bo dm dn hh hn kag kpa kbo kdm kdn khh khn wb ps ty) _ := P_X hP
        refine wrVi (As := []) (rest := []) hx hb hml hown hg (c_X2_day l D cI cB aS _ pl n st ik td nd nh bs ktd knd knh kbs pg kd ag pa bo dm dn hh hn kag kpa kbo kdm kdn khh khn wb ps ty ((D_X hD).weaken (fun _ _ _ _ => trivial)) (by first | assumption | omega) (by first | assumption | omega)) gm_150 vf_X2_day ⟨Nat.le_of_ble_eq_true rfl, Nat.le_of_ble_eq_true rfl⟩ ⟨rfl, rfl⟩ ⟨Nat.zero_le _, Nat.zero_le _⟩ (RP.preV hK hP_4 (q0 := 0) (ci := 2) XW_g0 rfl) rfl hl.1 rfl (Nat.le_of_ble_eq_true rfl) dL_act_191 hS (inW_all (D_X hD)) (fun r_5 u_5 H1 locs hpo_5 hP1 hk1 hS => ?_)
        have ef_5 : dayF n td kd ag pa = ((nI (td + 1)), groF kd ag n, paF ag pa td n, td + 1) := by unfold dayF; rw [if_neg (by omega), if_neg (by omega)]
        have er_5 : r_5 = (nI (td + 1)) := congrArg Prod.fst (hpo_5.trans (ef_5))
        have eu_5 : u_5 = (groF kd ag n, paF ag pa td n, td + 1) := congrArg Prod.snd (hpo_5.trans (ef_5))
        subst eu_5
        subst er_5
        have hP : va_P D vwCl (ZW cI cB a y pl n st ik (td + 1) nd nh bs ktd knd knh kbs pg kd (groF kd ag n) (paF ag pa td n) bo dm dn hh hn kag kpa kbo kdm kdn khh khn wb ps ty (upd (psF wa n) 1 (nI (td + 1))) wc (gbF ga wa td n) tt ow) H1 := zx_join hP hD hP1 hk1
        have hD : va_D A (ZW cI cB a y pl n st ik (td + 1) nd nh bs ktd knd knh kbs pg kd (groF kd ag n) (paF ag pa td n) bo dm dn hh hn kag kpa kbo kdm kdn khh khn wb ps ty (upd (psF wa n) 1 (nI (td + 1))) wc (gbF ga wa td n) tt ow) := hD.addr (ZW_addr.trans ZW_addr.symm)
        clear hP1 hk1
        generalize H1 = H at hP hS ⊢
        refine lv_aload_n hx hb dL_act_194 rfl (lv_at hl 2 rfl) ?_
        refine lv_iconst (v := (nI 1)) hx hb dL_act_195 (by decide) ?_
        refine nv_iald hx hb hK.1 hP 41 0 ZW_g41 rfl (by omega) (by omega) dL_act_196 ?_
        rw [show (((upd (psF wa n) 1 (nI (td + 1))) 1) : Int32) = (nI (td + 1)) from pk_us]
        refine nv_icmp_ne (tgt := 204) hx hb dL_act_197 (by omega) (by omega) (by decide) (fun c_197 => ?_) (fun c_197 => ?_)
        · exact absurd rfl c_197
        · skip
          refine lv_iconst (v := (nI 1)) hx hb dL_act_200 (by decide) ?_
          refine lv_goto (tgt := 205) hx hb dL_act_201 (by decide) ?_
          subst hAe
          exact wr_z (w1 := fun (u : Nat × Int32 × (Nat → Int32) × (Nat → Int32) × (Nat → Int32) × (Nat → Int32) × (Nat → Int64)) => ZW cI cB a y pl n st ik u.1 nd nh u.2.1 ktd knd knh kbs pg kd u.2.2.1 u.2.2.2.1 u.2.2.2.2.1 dm dn hh hn kag kpa kbo kdm kdn khh khn wb ps ty u.2.2.2.2.2.1 wc u.2.2.2.2.2.2 tt ow) hx hb hr hlocks hS nar_1 (td + 1, bs, groF kd ag n, paF ag pa td n, bo, upd (psF wa n) 1 (nI (td + 1)), gbF ga wa td n) hP dL_act_205 (⟨rfl, hzI.day c_115⟩)
      · skip
        refine lv_aload_n hx hb dL_act_150 rfl (lv_at hl 3 rfl) ?_
        refine lv_aload_n hx hb dL_act_151 rfl (lv_at hl 2 rfl) ?_
        refine lv_iconst (v := (nI 1)) hx hb dL_act_152 (by decide) ?_
        refine nv_iald hx hb hK.1 hP 41 0 ZW_g41 rfl (by omega) (by omega) dL_act_153 ?_
        rw [show ((wa 1) : Int32) = (nI td) from hw1]
        refine lv_dup2_11 hx hb dL_act_154 rfl rfl ?_
        refine nv_lald hx hb hK.1 hP 43 1 ZW_g43 rfl (by omega) (by omega) dL_act_155 ?_
        rw [show ((gbF ga wa td i) td : Int64) = acW wa i from gbF_at]
        refine lv_aload_n hx hb dL_act_156 rfl (lv_at hl 2 rfl) ?_
        refine lv_iconst (v := (nI 4)) hx hb dL_act_157 (by decide) ?_
        refine lv_iconst (v := (nI 3)) hx hb dL_act_158 (by decide) ?_
        refine lv_iload hx hb dL_act_159 (lv_at hl 4 rfl) ?_
        refine nv_imul hx hb dL_act_161 ?_
        refine nv_iadd hx hb dL_act_162 ?_
        refine nv_iald hx hb hK.1 hP 41 0 ZW_g41 rfl (by omega) (by omega) dL_act_163 ?_
        refine lv_i2l (v := (wa (4 + (3 * i))).toInt64) hx hb dL_act_164 rfl ?_
        refine lv_bipush (v := (nI 7)) hx hb dL_act_165 (by decide) ?_
        refine lv_iload hx hb dL_act_167 (lv_at hl 4 rfl) ?_
        refine nv_imul hx hb dL_act_169 ?_
        refine lv_lshl (v := ((wa (4 + (3 * i))).toInt64) <<< ((nI (7 * i)).toInt64 &&& 63)) hx hb dL_act_170 rfl ?_
        refine lv_lor hx hb dL_act_171 ?_
        refine nv_last hx hb hK.1 hP hD hS 43 1 ZW_g43 rfl (by omega) (by omega) dL_act_172 (fun H locs hP hD hS => ?_)
        have hP : va_P D vwCl (ZW cI cB a y pl n st ik td nd nh bs ktd knd knh kbs pg kd ag pa bo dm dn hh hn kag kpa kbo kdm kdn khh khn wb ps ty wa wc (vp_updL (gbF ga wa td i) td ((acW wa i) ||| (((wa (4 + (3 * i))).toInt64) <<< ((nI (7 * i)).toInt64 &&& 63)))) tt ow) H := P_eq hP ZW_s43
        have hD : va_D A (ZW cI cB a y pl n st ik td nd nh bs ktd knd knh kbs pg kd ag pa bo dm dn hh hn kag kpa kbo kdm kdn khh khn wb ps ty wa wc (vp_updL (gbF ga wa td i) td ((acW wa i) ||| (((wa (4 + (3 * i))).toInt64) <<< ((nI (7 * i)).toInt64 &&& 63)))) tt ow) := D_eq hD ZW_s43
        have e_6 : vp_updL (gbF ga wa td i) td ((acW wa i) ||| (((wa (4 + (3 * i))).toInt64) <<< ((nI (7 * i)).toInt64 &&& 63))) = gbF ga wa td (i + 1) := gbF_s
        rw [e_6] at hP hD
        have hP : va_P D vwCl (ZW cI cB a y pl n st ik td nd nh bs ktd knd knh kbs pg kd ag pa bo dm dn hh hn kag kpa kbo kdm kdn khh khn wb ps ty wa wc (gbF ga wa td (i + 1)) tt ow) H := hP
        have hD : va_D A (ZW cI cB a y pl n st ik td nd nh bs ktd knd knh kbs pg kd ag pa bo dm dn hh hn kag kpa kbo kdm kdn khh khn wb ps ty wa wc (gbF ga wa td (i + 1)) tt ow) := hD
        refine lv_iinc (v := (nI (i + 1))) (lv' := [(4, .int (nI (i + 1))), (0, .ref (a 0)), (1, .int (nI x)), (2, .ref (y 0)), (3, .ref (y 2))]) hx hb dL_act_173 hl (k := 4) rfl (nI_i1 _) (by decide) rfl (fun ls hl => ?_)
        refine lv_goto (tgt := 142) hx hb dL_act_176 (by decide) ?_
        exact ih_142 () _ _ _ (by omega) (trivial) (lv_sub hl [1, 2, 3, 4, 0] rfl) hP (hD.addr (ZW_addr.trans ZW_addr.symm)) hS
    · skip
      refine lv_aload_n hx hb dL_act_118 rfl (lv_at hl 0 rfl) ?_
      have hP_7 : va_P D vwCl (XW cI a pl n st ik td nd nh bs ktd knd knh kbs pg kd ag pa bo dm dn hh hn kag kpa kbo kdm kdn khh khn wb ps ty) _ := P_X hP
      refine wrVi (As := []) (rest := []) hx hb hml hown hg (c_X2_day l D cI cB aS _ pl n st ik td nd nh bs ktd knd knh kbs pg kd ag pa bo dm dn hh hn kag kpa kbo kdm kdn khh khn wb ps ty ((D_X hD).weaken (fun _ _ _ _ => trivial)) (by first | assumption | omega) (by first | assumption | omega)) gm_150 vf_X2_day ⟨Nat.le_of_ble_eq_true rfl, Nat.le_of_ble_eq_true rfl⟩ ⟨rfl, rfl⟩ ⟨Nat.zero_le _, Nat.zero_le _⟩ (RP.preV hK hP_7 (q0 := 0) (ci := 2) XW_g0 rfl) rfl hl.1 rfl (Nat.le_of_ble_eq_true rfl) dL_act_119 hS (inW_all (D_X hD)) (fun r_8 u_8 H1 locs hpo_8 hP1 hk1 hS => ?_)
      have ef_8 : dayF n td kd ag pa = ((-104), ag, pa, td) := by unfold dayF; rw [if_neg (by omega), if_pos (by omega)]
      have er_8 : r_8 = (-104) := congrArg Prod.fst (hpo_8.trans (ef_8))
      have eu_8 : u_8 = (ag, pa, td) := congrArg Prod.snd (hpo_8.trans (ef_8))
      subst eu_8
      subst er_8
      have hP : va_P D vwCl (ZW cI cB a y pl n st ik td nd nh bs ktd knd knh kbs pg kd ag pa bo dm dn hh hn kag kpa kbo kdm kdn khh khn wb ps ty wa wc ga tt ow) H1 := zx_join hP hD hP1 hk1
      have hD : va_D A (ZW cI cB a y pl n st ik td nd nh bs ktd knd knh kbs pg kd ag pa bo dm dn hh hn kag kpa kbo kdm kdn khh khn wb ps ty wa wc ga tt ow) := hD.addr (ZW_addr.trans ZW_addr.symm)
      clear hP1 hk1
      generalize H1 = H at hP hS ⊢
      refine lv_bipush (v := (-104)) hx hb dL_act_122 (by decide) ?_
      refine lv_icmp_ne (tgt := 131) hx hb dL_act_124 (by decide) (fun c_124 => ?_) (fun c_124 => ?_)
      · exact absurd rfl c_124
      · skip
        refine lv_iconst (v := (nI 1)) hx hb dL_act_127 (by decide) ?_
        refine lv_goto (tgt := 132) hx hb dL_act_128 (by decide) ?_
        subst hAe
        exact wr_z (w1 := fun (u : Nat × Int32 × (Nat → Int32) × (Nat → Int32) × (Nat → Int32) × (Nat → Int32) × (Nat → Int64)) => ZW cI cB a y pl n st ik u.1 nd nh u.2.1 ktd knd knh kbs pg kd u.2.2.1 u.2.2.2.1 u.2.2.2.2.1 dm dn hh hn kag kpa kbo kdm kdn khh khn wb ps ty u.2.2.2.2.2.1 wc u.2.2.2.2.2.2 tt ow) hx hb hr hlocks hS nar_1 (td, bs, ag, pa, bo, wa, ga) hP dL_act_132 (⟨rfl, hzI⟩)
  · skip
    refine lv_iload_n hx hb dL_act_9 rfl (lv_at hl 1 rfl) ?_
    refine lv_bipush (v := (nI 16)) hx hb dL_act_10 (by decide) ?_
    refine nv_idiv hx hb dL_act_12 (by omega) (by omega) (by omega) ?_
    refine lv_aload_n hx hb dL_act_13 rfl (lv_at hl 2 rfl) ?_
    refine lv_iconst (v := (nI 0)) hx hb dL_act_14 (by decide) ?_
    refine nv_iald hx hb hK.1 hP 41 0 ZW_g41 rfl (by omega) (by omega) dL_act_15 ?_
    rw [show ((wa 0) : Int32) = (nI n) from hw0]
    refine nv_irem hx hb dL_act_16 (by omega) (by omega) (by omega) ?_
    obtain ⟨k, ek⟩ : ∃ k, k = x / 16 % n := ⟨_, rfl⟩
    have hk : k < n := by rw [ek]; exact Nat.mod_lt _ (by omega)
    obtain ⟨c9, a9, qc, qa, ekd, ewk, eag, ewa, ebo⟩ := hho k hk
    rw [← ek]
    refine lv_istore (lv' := [(4, .int (nI k)), (0, .ref (a 0)), (1, .int (nI x)), (2, .ref (y 0)), (3, .ref (y 2))]) hx hb dL_act_17 hl (by decide) rfl (fun ls hl => ?_)
    refine lv_aload_n hx hb dL_act_19 rfl (lv_at hl 3 rfl) ?_
    refine lv_iload hx hb dL_act_20 (lv_at hl 0 rfl) ?_
    have hP_9 : va_P D vwCl [(y 0, .inl (cI, 21, .inl wa))] _ := P_s1 hP ZW_g41
    refine rdS (As := [.ref (y 0), .int (nI k)]) (rest := []) hx hb hml hown hg (c_L_bears l D cI cB aS (y 0) wa k c9 (by first | assumption | omega) qc ewk) gm_328 sf_L_bears ⟨Nat.le_of_ble_eq_true rfl, Nat.le_of_ble_eq_true rfl⟩ ⟨rfl, rfl⟩ ⟨Nat.zero_le _, Nat.zero_le _⟩ (RP.preS hK hP_9) rfl hl.1 rfl (Nat.le_of_ble_eq_true rfl) dL_act_22 ?_
    refine bv_if_ne (tgt := 45) hx hb dL_act_25 (by decide) (fun c_25 => ?_) (fun c_25 => ?_)
    · skip
      refine lv_aload_n hx hb dL_act_45 rfl (lv_at hl 3 rfl) ?_
      refine lv_iload hx hb dL_act_46 (lv_at hl 0 rfl) ?_
      have hP_10 : va_P D vwCl [(y 0, .inl (cI, 21, .inl wa))] _ := P_s1 hP ZW_g41
      have hC_11 : ([41] : List Nat).map (fun q_ => (ZW cI cB a y pl n st ik td nd nh bs ktd knd knh kbs pg kd ag pa bo dm dn hh hn kag kpa kbo kdm kdn khh khn wb ps ty wa wc ga tt ow : va_W)[q_]?) = List.map some ([(y 0, .inl (cI, 21, .inl wa))] : va_W) := M_s1 ZW_g41
      have hDc_11 : va_D (fun _ => True) [(y 0, .inl (cI, 21, .inl wa))] := (hD.sub (ws' := [(y 0, .inl (cI, 21, .inl wa))]) [41] (by decide) hC_11).weaken (fun _ _ _ _ => trivial)
      refine wrSi (As := [.ref (y 0), .int (nI k)]) (rest := []) hx hb hml hown hg (c_L_bear l D cI cB aS (y 0) wa n k hDc_11 (by first | assumption | omega) (by first | assumption | omega) (by first | assumption | omega)) gm_331 sf_L_bear ⟨Nat.le_of_ble_eq_true rfl, Nat.le_of_ble_eq_true rfl⟩ ⟨rfl, rfl⟩ ⟨Nat.zero_le _, Nat.zero_le _⟩ (RP.preS hK hP_10) rfl hl.1 rfl (Nat.le_of_ble_eq_true rfl) dL_act_48 hS (inW_sub hD [41] hC_11) (fun r_12 u_12 H1 locs hpo_12 hP1 hk1 hS => ?_)
      have hP : va_P D vwCl (ZW cI cB a y pl n st ik td nd nh bs ktd knd knh kbs pg kd ag pa bo dm dn hh hn kag kpa kbo kdm kdn khh khn wb ps ty (beW n wa k) wc ga tt ow) H1 := P_eq (wjoin (wc := [(y 0, .inl (cI, 21, .inl wa))]) (w1 := [(y 0, .inl (cI, 21, .inl (beW n wa k)))]) hP hD [41] hC_11 rfl hP1 hk1) ZW_s41
      have hD : va_D A (ZW cI cB a y pl n st ik td nd nh bs ktd knd knh kbs pg kd ag pa bo dm dn hh hn kag kpa kbo kdm kdn khh khn wb ps ty (beW n wa k) wc ga tt ow) := hD.addr (ZW_addr.trans ZW_addr.symm)
      clear hP1 hk1
      generalize H1 = H at hP hS ⊢
      have hpo_12 : r_12 = (if lnW n wa k then nI 2 else nI 1) := hpo_12
      subst hpo_12
      by_cases hln : lnW n wa k
      · skip
        have hln1 := hln.1
        rw [if_pos hln]
        refine lv_istore (lv' := [(5, .int (nI 2)), (4, .int (nI k)), (0, .ref (a 0)), (1, .int (nI x)), (2, .ref (y 0)), (3, .ref (y 2))]) hx hb dL_act_51 hl (by decide) rfl (fun ls hl => ?_)
        refine lv_iconst (v := (nI 0)) hx hb dL_act_53 (by decide) ?_
        refine lv_istore (lv' := [(6, .int (nI 0)), (5, .int (nI 2)), (4, .int (nI k)), (0, .ref (a 0)), (1, .int (nI x)), (2, .ref (y 0)), (3, .ref (y 2))]) hx hb dL_act_54 hl (by decide) rfl (fun ls hl => ?_)
        -- loop at 56
        refine loopW (nL := 7) (S := Unit) (B := 2) (I := fun i u => True) (lv := fun i u => [(0, .ref (a 0)), (1, .int (nI x)), (2, .ref (y 0)), (3, .ref (y 2)), (4, .int (nI k)), (5, .int (nI 2)), (6, .int (nI i))]) (wf := fun i u => ZW cI cB a y pl n st ik td nd nh bs ktd knd knh kbs pg kd ag pa bo dm dn hh hn kag kpa kbo kdm kdn khh khn wb ps ty (bsW k (beW n wa k) i) wc ga tt ow) 0 () (Nat.zero_le _) (trivial) (lv_sub hl [3, 4, 5, 6, 2, 1, 0] rfl) hP (hD.addr (ZW_addr.trans ZW_addr.symm)) hS (fun i u ls H locs hj hI hl hP hD hS ih => ?_)
        have hP : va_P D vwCl (ZW cI cB a y pl n st ik td nd nh bs ktd knd knh kbs pg kd ag pa bo dm dn hh hn kag kpa kbo kdm kdn khh khn wb ps ty (bsW k (beW n wa k) i) wc ga tt ow) H := hP
        have hD : va_D A (ZW cI cB a y pl n st ik td nd nh bs ktd knd knh kbs pg kd ag pa bo dm dn hh hn kag kpa kbo kdm kdn khh khn wb ps ty (bsW k (beW n wa k) i) wc ga tt ow) := hD
        have hl : lv_has ls 7 [(0, .ref (a 0)), (1, .int (nI x)), (2, .ref (y 0)), (3, .ref (y 2)), (4, .int (nI k)), (5, .int (nI 2)), (6, .int (nI i))] := hl
        have ih_56 := ih
        refine lv_iload hx hb dL_act_56 (lv_at hl 6 rfl) ?_
        refine lv_iload hx hb dL_act_58 (lv_at hl 5 rfl) ?_
        refine nv_icmp_ge (tgt := 86) hx hb dL_act_60 (by omega) (by omega) (by decide) (fun c_60 => ?_) (fun c_60 => ?_)
        · skip
          have e2 : i = 2 := by omega
          subst e2
          refine lv_aload_n hx hb dL_act_86 rfl (lv_at hl 2 rfl) ?_
          refine lv_iconst (v := (nI 2)) hx hb dL_act_87 (by decide) ?_
          refine lv_dup2_11 hx hb dL_act_88 rfl rfl ?_
          refine nv_iald hx hb hK.1 hP 41 0 ZW_g41 rfl (by omega) (by omega) dL_act_89 ?_
          refine lv_iconst (v := (nI 1)) hx hb dL_act_90 (by decide) ?_
          refine lv_iadd hx hb dL_act_91 ?_
          refine nv_iast hx hb hK.1 hP hD hS 41 0 ZW_g41 rfl (by omega) (by omega) dL_act_92 (fun H locs hP hD hS => ?_)
          have hP : va_P D vwCl (ZW cI cB a y pl n st ik td nd nh bs ktd knd knh kbs pg kd ag pa bo dm dn hh hn kag kpa kbo kdm kdn khh khn wb ps ty (upd (bsW k (beW n wa k) 2) 2 (((bsW k (beW n wa k) 2) 2) + (nI 1))) wc ga tt ow) H := P_eq hP ZW_s41
          have hD : va_D A (ZW cI cB a y pl n st ik td nd nh bs ktd knd knh kbs pg kd ag pa bo dm dn hh hn kag kpa kbo kdm kdn khh khn wb ps ty (upd (bsW k (beW n wa k) 2) 2 (((bsW k (beW n wa k) 2) 2) + (nI 1))) wc ga tt ow) := D_eq hD ZW_s41
          refine lv_aload_n hx hb dL_act_93 rfl (lv_at hl 0 rfl) ?_
          refine lv_iload hx hb dL_act_94 (lv_at hl 4 rfl) ?_
          have hP_13 : va_P D vwCl (XW cI a pl n st ik td nd nh bs ktd knd knh kbs pg kd ag pa bo dm dn hh hn kag kpa kbo kdm kdn khh khn wb ps ty) _ := P_X hP
          refine wrVi (As := [.int (nI k)]) (rest := []) hx hb hml hown hg (c_X2_birth l D cI cB aS _ pl n st ik td nd nh bs ktd knd knh kbs pg kd ag pa bo dm dn hh hn kag kpa kbo kdm kdn khh khn wb ps ty (nI k) ((D_X hD).weaken (fun _ _ _ _ => trivial)) (by first | assumption | omega)) gm_130 vf_X2_birth ⟨Nat.le_of_ble_eq_true rfl, Nat.le_of_ble_eq_true rfl⟩ ⟨rfl, rfl⟩ ⟨Nat.zero_le _, Nat.zero_le _⟩ (RP.preV hK hP_13 (q0 := 0) (ci := 2) XW_g0 rfl) rfl hl.1 rfl (Nat.le_of_ble_eq_true rfl) dL_act_96 hS (inW_all (D_X hD)) (fun r_14 u_14 H1 locs hpo_14 hP1 hk1 hS => ?_)
          have ef_14 : birF n kd ag bo bs (nI k) = ((nI 2), bearF n kd ag k, bornF n kd bo k, bs + nI 1) := by rw [bir_ok hk hn6 (by rw [ekd]; exact c_25), if_pos ((ln_iff hzI.k).mpr hln)]
          have er_14 : r_14 = (nI 2) := congrArg Prod.fst (hpo_14.trans (ef_14))
          have eu_14 : u_14 = (bearF n kd ag k, bornF n kd bo k, bs + nI 1) := congrArg Prod.snd (hpo_14.trans (ef_14))
          subst eu_14
          subst er_14
          have hP : va_P D vwCl (ZW cI cB a y pl n st ik td nd nh (bs + nI 1) ktd knd knh kbs pg kd (bearF n kd ag k) pa (bornF n kd bo k) dm dn hh hn kag kpa kbo kdm kdn khh khn wb ps ty (upd (bsW k (beW n wa k) 2) 2 (((bsW k (beW n wa k) 2) 2) + (nI 1))) wc ga tt ow) H1 := zx_join hP hD hP1 hk1
          have hD : va_D A (ZW cI cB a y pl n st ik td nd nh (bs + nI 1) ktd knd knh kbs pg kd (bearF n kd ag k) pa (bornF n kd bo k) dm dn hh hn kag kpa kbo kdm kdn khh khn wb ps ty (upd (bsW k (beW n wa k) 2) 2 (((bsW k (beW n wa k) 2) 2) + (nI 1))) wc ga tt ow) := hD.addr (ZW_addr.trans ZW_addr.symm)
          clear hP1 hk1
          generalize H1 = H at hP hS ⊢
          refine lv_iload hx hb dL_act_99 (lv_at hl 5 rfl) ?_
          refine nv_icmp_ne (tgt := 108) hx hb dL_act_101 (by omega) (by omega) (by decide) (fun c_101 => ?_) (fun c_101 => ?_)
          · exact absurd rfl c_101
          · skip
            refine lv_iconst (v := (nI 1)) hx hb dL_act_104 (by decide) ?_
            refine lv_goto (tgt := 109) hx hb dL_act_105 (by decide) ?_
            subst hAe
            exact wr_z (w1 := fun (u : Nat × Int32 × (Nat → Int32) × (Nat → Int32) × (Nat → Int32) × (Nat → Int32) × (Nat → Int64)) => ZW cI cB a y pl n st ik u.1 nd nh u.2.1 ktd knd knh kbs pg kd u.2.2.1 u.2.2.2.1 u.2.2.2.2.1 dm dn hh hn kag kpa kbo kdm kdn khh khn wb ps ty u.2.2.2.2.2.1 wc u.2.2.2.2.2.2 tt ow) hx hb hr hlocks hS nar_1 (td, (bs + nI 1), bearF n kd ag k, pa, bornF n kd bo k, upd (bsW k (beW n wa k) 2) 2 (((bsW k (beW n wa k) 2) 2) + (nI 1)), ga) hP dL_act_109 (⟨rfl, hzI.bear hk (if_pos hln).symm⟩)
        · skip
          refine lv_aload_n hx hb dL_act_63 rfl (lv_at hl 2 rfl) ?_
          refine lv_iconst (v := (nI 5)) hx hb dL_act_64 (by decide) ?_
          refine lv_iconst (v := (nI 3)) hx hb dL_act_65 (by decide) ?_
          refine lv_iload hx hb dL_act_66 (lv_at hl 4 rfl) ?_
          refine nv_imul hx hb dL_act_68 ?_
          refine nv_iadd hx hb dL_act_69 ?_
          refine lv_iconst (v := (nI 3)) hx hb dL_act_70 (by decide) ?_
          refine lv_iload hx hb dL_act_71 (lv_at hl 6 rfl) ?_
          refine nv_imul hx hb dL_act_73 ?_
          refine nv_iadd hx hb dL_act_74 ?_
          refine lv_dup2_11 hx hb dL_act_75 rfl rfl ?_
          refine nv_iald hx hb hK.1 hP 41 0 ZW_g41 rfl (by omega) (by omega) dL_act_76 ?_
          refine lv_iconst (v := (nI 1)) hx hb dL_act_77 (by decide) ?_
          refine lv_iadd hx hb dL_act_78 ?_
          refine nv_iast hx hb hK.1 hP hD hS 41 0 ZW_g41 rfl (by omega) (by omega) dL_act_79 (fun H locs hP hD hS => ?_)
          have hP : va_P D vwCl (ZW cI cB a y pl n st ik td nd nh bs ktd knd knh kbs pg kd ag pa bo dm dn hh hn kag kpa kbo kdm kdn khh khn wb ps ty (upd (bsW k (beW n wa k) i) (5 + (3 * k) + (3 * i)) (((bsW k (beW n wa k) i) (5 + (3 * k) + (3 * i))) + (nI 1))) wc ga tt ow) H := P_eq hP ZW_s41
          have hD : va_D A (ZW cI cB a y pl n st ik td nd nh bs ktd knd knh kbs pg kd ag pa bo dm dn hh hn kag kpa kbo kdm kdn khh khn wb ps ty (upd (bsW k (beW n wa k) i) (5 + (3 * k) + (3 * i)) (((bsW k (beW n wa k) i) (5 + (3 * k) + (3 * i))) + (nI 1))) wc ga tt ow) := D_eq hD ZW_s41
          have e_15 : upd (bsW k (beW n wa k) i) (5 + (3 * k) + (3 * i)) (((bsW k (beW n wa k) i) (5 + (3 * k) + (3 * i))) + (nI 1)) = bsW k (beW n wa k) (i + 1) := rfl
          rw [e_15] at hP hD
          have hP : va_P D vwCl (ZW cI cB a y pl n st ik td nd nh bs ktd knd knh kbs pg kd ag pa bo dm dn hh hn kag kpa kbo kdm kdn khh khn wb ps ty (bsW k (beW n wa k) (i + 1)) wc ga tt ow) H := hP
          have hD : va_D A (ZW cI cB a y pl n st ik td nd nh bs ktd knd knh kbs pg kd ag pa bo dm dn hh hn kag kpa kbo kdm kdn khh khn wb ps ty (bsW k (beW n wa k) (i + 1)) wc ga tt ow) := hD
          refine lv_iinc (v := (nI (i + 1))) (lv' := [(6, .int (nI (i + 1))), (0, .ref (a 0)), (1, .int (nI x)), (2, .ref (y 0)), (3, .ref (y 2)), (4, .int (nI k)), (5, .int (nI 2))]) hx hb dL_act_80 hl (k := 6) rfl (nI_i1 _) (by decide) rfl (fun ls hl => ?_)
          refine lv_goto (tgt := 56) hx hb dL_act_83 (by decide) ?_
          exact ih_56 () _ _ _ (by omega) (trivial) (lv_sub hl [1, 2, 3, 4, 5, 6, 0] rfl) hP (hD.addr (ZW_addr.trans ZW_addr.symm)) hS
      · skip
        rw [if_neg hln]
        refine lv_istore (lv' := [(5, .int (nI 1)), (4, .int (nI k)), (0, .ref (a 0)), (1, .int (nI x)), (2, .ref (y 0)), (3, .ref (y 2))]) hx hb dL_act_51 hl (by decide) rfl (fun ls hl => ?_)
        refine lv_iconst (v := (nI 0)) hx hb dL_act_53 (by decide) ?_
        refine lv_istore (lv' := [(6, .int (nI 0)), (5, .int (nI 1)), (4, .int (nI k)), (0, .ref (a 0)), (1, .int (nI x)), (2, .ref (y 0)), (3, .ref (y 2))]) hx hb dL_act_54 hl (by decide) rfl (fun ls hl => ?_)
        -- loop at 56
        refine loopW (nL := 7) (S := Unit) (B := 1) (I := fun i u => True) (lv := fun i u => [(0, .ref (a 0)), (1, .int (nI x)), (2, .ref (y 0)), (3, .ref (y 2)), (4, .int (nI k)), (5, .int (nI 1)), (6, .int (nI i))]) (wf := fun i u => ZW cI cB a y pl n st ik td nd nh bs ktd knd knh kbs pg kd ag pa bo dm dn hh hn kag kpa kbo kdm kdn khh khn wb ps ty (bsW k (beW n wa k) i) wc ga tt ow) 0 () (Nat.zero_le _) (trivial) (lv_sub hl [3, 4, 5, 6, 2, 1, 0] rfl) hP (hD.addr (ZW_addr.trans ZW_addr.symm)) hS (fun i u ls H locs hj hI hl hP hD hS ih => ?_)
        have hP : va_P D vwCl (ZW cI cB a y pl n st ik td nd nh bs ktd knd knh kbs pg kd ag pa bo dm dn hh hn kag kpa kbo kdm kdn khh khn wb ps ty (bsW k (beW n wa k) i) wc ga tt ow) H := hP
        have hD : va_D A (ZW cI cB a y pl n st ik td nd nh bs ktd knd knh kbs pg kd ag pa bo dm dn hh hn kag kpa kbo kdm kdn khh khn wb ps ty (bsW k (beW n wa k) i) wc ga tt ow) := hD
        have hl : lv_has ls 7 [(0, .ref (a 0)), (1, .int (nI x)), (2, .ref (y 0)), (3, .ref (y 2)), (4, .int (nI k)), (5, .int (nI 1)), (6, .int (nI i))] := hl
        have ih_56 := ih
        refine lv_iload hx hb dL_act_56 (lv_at hl 6 rfl) ?_
        refine lv_iload hx hb dL_act_58 (lv_at hl 5 rfl) ?_
        refine nv_icmp_ge (tgt := 86) hx hb dL_act_60 (by omega) (by omega) (by decide) (fun c_60 => ?_) (fun c_60 => ?_)
        · skip
          have e2 : i = 1 := by omega
          subst e2
          refine lv_aload_n hx hb dL_act_86 rfl (lv_at hl 2 rfl) ?_
          refine lv_iconst (v := (nI 2)) hx hb dL_act_87 (by decide) ?_
          refine lv_dup2_11 hx hb dL_act_88 rfl rfl ?_
          refine nv_iald hx hb hK.1 hP 41 0 ZW_g41 rfl (by omega) (by omega) dL_act_89 ?_
          refine lv_iconst (v := (nI 1)) hx hb dL_act_90 (by decide) ?_
          refine lv_iadd hx hb dL_act_91 ?_
          refine nv_iast hx hb hK.1 hP hD hS 41 0 ZW_g41 rfl (by omega) (by omega) dL_act_92 (fun H locs hP hD hS => ?_)
          have hP : va_P D vwCl (ZW cI cB a y pl n st ik td nd nh bs ktd knd knh kbs pg kd ag pa bo dm dn hh hn kag kpa kbo kdm kdn khh khn wb ps ty (upd (bsW k (beW n wa k) 1) 2 (((bsW k (beW n wa k) 1) 2) + (nI 1))) wc ga tt ow) H := P_eq hP ZW_s41
          have hD : va_D A (ZW cI cB a y pl n st ik td nd nh bs ktd knd knh kbs pg kd ag pa bo dm dn hh hn kag kpa kbo kdm kdn khh khn wb ps ty (upd (bsW k (beW n wa k) 1) 2 (((bsW k (beW n wa k) 1) 2) + (nI 1))) wc ga tt ow) := D_eq hD ZW_s41
          refine lv_aload_n hx hb dL_act_93 rfl (lv_at hl 0 rfl) ?_
          refine lv_iload hx hb dL_act_94 (lv_at hl 4 rfl) ?_
          have hP_16 : va_P D vwCl (XW cI a pl n st ik td nd nh bs ktd knd knh kbs pg kd ag pa bo dm dn hh hn kag kpa kbo kdm kdn khh khn wb ps ty) _ := P_X hP
          refine wrVi (As := [.int (nI k)]) (rest := []) hx hb hml hown hg (c_X2_birth l D cI cB aS _ pl n st ik td nd nh bs ktd knd knh kbs pg kd ag pa bo dm dn hh hn kag kpa kbo kdm kdn khh khn wb ps ty (nI k) ((D_X hD).weaken (fun _ _ _ _ => trivial)) (by first | assumption | omega)) gm_130 vf_X2_birth ⟨Nat.le_of_ble_eq_true rfl, Nat.le_of_ble_eq_true rfl⟩ ⟨rfl, rfl⟩ ⟨Nat.zero_le _, Nat.zero_le _⟩ (RP.preV hK hP_16 (q0 := 0) (ci := 2) XW_g0 rfl) rfl hl.1 rfl (Nat.le_of_ble_eq_true rfl) dL_act_96 hS (inW_all (D_X hD)) (fun r_17 u_17 H1 locs hpo_17 hP1 hk1 hS => ?_)
          have ef_17 : birF n kd ag bo bs (nI k) = ((nI 1), bearF n kd ag k, bornF n kd bo k, bs + nI 1) := by rw [bir_ok hk hn6 (by rw [ekd]; exact c_25), if_neg (fun q => hln ((ln_iff hzI.k).mp q))]
          have er_17 : r_17 = (nI 1) := congrArg Prod.fst (hpo_17.trans (ef_17))
          have eu_17 : u_17 = (bearF n kd ag k, bornF n kd bo k, bs + nI 1) := congrArg Prod.snd (hpo_17.trans (ef_17))
          subst eu_17
          subst er_17
          have hP : va_P D vwCl (ZW cI cB a y pl n st ik td nd nh (bs + nI 1) ktd knd knh kbs pg kd (bearF n kd ag k) pa (bornF n kd bo k) dm dn hh hn kag kpa kbo kdm kdn khh khn wb ps ty (upd (bsW k (beW n wa k) 1) 2 (((bsW k (beW n wa k) 1) 2) + (nI 1))) wc ga tt ow) H1 := zx_join hP hD hP1 hk1
          have hD : va_D A (ZW cI cB a y pl n st ik td nd nh (bs + nI 1) ktd knd knh kbs pg kd (bearF n kd ag k) pa (bornF n kd bo k) dm dn hh hn kag kpa kbo kdm kdn khh khn wb ps ty (upd (bsW k (beW n wa k) 1) 2 (((bsW k (beW n wa k) 1) 2) + (nI 1))) wc ga tt ow) := hD.addr (ZW_addr.trans ZW_addr.symm)
          clear hP1 hk1
          generalize H1 = H at hP hS ⊢
          refine lv_iload hx hb dL_act_99 (lv_at hl 5 rfl) ?_
          refine nv_icmp_ne (tgt := 108) hx hb dL_act_101 (by omega) (by omega) (by decide) (fun c_101 => ?_) (fun c_101 => ?_)
          · exact absurd rfl c_101
          · skip
            refine lv_iconst (v := (nI 1)) hx hb dL_act_104 (by decide) ?_
            refine lv_goto (tgt := 109) hx hb dL_act_105 (by decide) ?_
            subst hAe
            exact wr_z (w1 := fun (u : Nat × Int32 × (Nat → Int32) × (Nat → Int32) × (Nat → Int32) × (Nat → Int32) × (Nat → Int64)) => ZW cI cB a y pl n st ik u.1 nd nh u.2.1 ktd knd knh kbs pg kd u.2.2.1 u.2.2.2.1 u.2.2.2.2.1 dm dn hh hn kag kpa kbo kdm kdn khh khn wb ps ty u.2.2.2.2.2.1 wc u.2.2.2.2.2.2 tt ow) hx hb hr hlocks hS nar_1 (td, (bs + nI 1), bearF n kd ag k, pa, bornF n kd bo k, upd (bsW k (beW n wa k) 1) 2 (((bsW k (beW n wa k) 1) 2) + (nI 1)), ga) hP dL_act_109 (⟨rfl, hzI.bear hk (if_neg hln).symm⟩)
        · skip
          refine lv_aload_n hx hb dL_act_63 rfl (lv_at hl 2 rfl) ?_
          refine lv_iconst (v := (nI 5)) hx hb dL_act_64 (by decide) ?_
          refine lv_iconst (v := (nI 3)) hx hb dL_act_65 (by decide) ?_
          refine lv_iload hx hb dL_act_66 (lv_at hl 4 rfl) ?_
          refine nv_imul hx hb dL_act_68 ?_
          refine nv_iadd hx hb dL_act_69 ?_
          refine lv_iconst (v := (nI 3)) hx hb dL_act_70 (by decide) ?_
          refine lv_iload hx hb dL_act_71 (lv_at hl 6 rfl) ?_
          refine nv_imul hx hb dL_act_73 ?_
          refine nv_iadd hx hb dL_act_74 ?_
          refine lv_dup2_11 hx hb dL_act_75 rfl rfl ?_
          refine nv_iald hx hb hK.1 hP 41 0 ZW_g41 rfl (by omega) (by omega) dL_act_76 ?_
          refine lv_iconst (v := (nI 1)) hx hb dL_act_77 (by decide) ?_
          refine lv_iadd hx hb dL_act_78 ?_
          refine nv_iast hx hb hK.1 hP hD hS 41 0 ZW_g41 rfl (by omega) (by omega) dL_act_79 (fun H locs hP hD hS => ?_)
          have hP : va_P D vwCl (ZW cI cB a y pl n st ik td nd nh bs ktd knd knh kbs pg kd ag pa bo dm dn hh hn kag kpa kbo kdm kdn khh khn wb ps ty (upd (bsW k (beW n wa k) i) (5 + (3 * k) + (3 * i)) (((bsW k (beW n wa k) i) (5 + (3 * k) + (3 * i))) + (nI 1))) wc ga tt ow) H := P_eq hP ZW_s41
          have hD : va_D A (ZW cI cB a y pl n st ik td nd nh bs ktd knd knh kbs pg kd ag pa bo dm dn hh hn kag kpa kbo kdm kdn khh khn wb ps ty (upd (bsW k (beW n wa k) i) (5 + (3 * k) + (3 * i)) (((bsW k (beW n wa k) i) (5 + (3 * k) + (3 * i))) + (nI 1))) wc ga tt ow) := D_eq hD ZW_s41
          have e_18 : upd (bsW k (beW n wa k) i) (5 + (3 * k) + (3 * i)) (((bsW k (beW n wa k) i) (5 + (3 * k) + (3 * i))) + (nI 1)) = bsW k (beW n wa k) (i + 1) := rfl
          rw [e_18] at hP hD
          have hP : va_P D vwCl (ZW cI cB a y pl n st ik td nd nh bs ktd knd knh kbs pg kd ag pa bo dm dn hh hn kag kpa kbo kdm kdn khh khn wb ps ty (bsW k (beW n wa k) (i + 1)) wc ga tt ow) H := hP
          have hD : va_D A (ZW cI cB a y pl n st ik td nd nh bs ktd knd knh kbs pg kd ag pa bo dm dn hh hn kag kpa kbo kdm kdn khh khn wb ps ty (bsW k (beW n wa k) (i + 1)) wc ga tt ow) := hD
          refine lv_iinc (v := (nI (i + 1))) (lv' := [(6, .int (nI (i + 1))), (0, .ref (a 0)), (1, .int (nI x)), (2, .ref (y 0)), (3, .ref (y 2)), (4, .int (nI k)), (5, .int (nI 1))]) hx hb dL_act_80 hl (k := 6) rfl (nI_i1 _) (by decide) rfl (fun ls hl => ?_)
          refine lv_goto (tgt := 56) hx hb dL_act_83 (by decide) ?_
          exact ih_56 () _ _ _ (by omega) (trivial) (lv_sub hl [1, 2, 3, 4, 5, 6, 0] rfl) hP (hD.addr (ZW_addr.trans ZW_addr.symm)) hS
    · skip
      refine lv_aload_n hx hb dL_act_28 rfl (lv_at hl 1 rfl) ?_
      refine lv_iload hx hb dL_act_29 (lv_at hl 0 rfl) ?_
      have hP_19 : va_P D vwCl (XW cI a pl n st ik td nd nh bs ktd knd knh kbs pg kd ag pa bo dm dn hh hn kag kpa kbo kdm kdn khh khn wb ps ty) _ := P_X hP
      refine wrVi (As := [.int (nI k)]) (rest := []) hx hb hml hown hg (c_X2_birth l D cI cB aS _ pl n st ik td nd nh bs ktd knd knh kbs pg kd ag pa bo dm dn hh hn kag kpa kbo kdm kdn khh khn wb ps ty (nI k) ((D_X hD).weaken (fun _ _ _ _ => trivial)) (by first | assumption | omega)) gm_130 vf_X2_birth ⟨Nat.le_of_ble_eq_true rfl, Nat.le_of_ble_eq_true rfl⟩ ⟨rfl, rfl⟩ ⟨Nat.zero_le _, Nat.zero_le _⟩ (RP.preV hK hP_19 (q0 := 0) (ci := 2) XW_g0 rfl) rfl hl.1 rfl (Nat.le_of_ble_eq_true rfl) dL_act_31 hS (inW_all (D_X hD)) (fun r_20 u_20 H1 locs hpo_20 hP1 hk1 hS => ?_)
      have er_20 : r_20 = (-103) := congrArg Prod.fst (hpo_20.trans (bir_2 hk hn6 (by rw [ekd]; exact c_25)))
      have eu_20 : u_20 = (ag, bo, bs) := congrArg Prod.snd (hpo_20.trans (bir_2 hk hn6 (by rw [ekd]; exact c_25)))
      subst eu_20
      subst er_20
      have hP : va_P D vwCl (ZW cI cB a y pl n st ik td nd nh bs ktd knd knh kbs pg kd ag pa bo dm dn hh hn kag kpa kbo kdm kdn khh khn wb ps ty wa wc ga tt ow) H1 := zx_join hP hD hP1 hk1
      have hD : va_D A (ZW cI cB a y pl n st ik td nd nh bs ktd knd knh kbs pg kd ag pa bo dm dn hh hn kag kpa kbo kdm kdn khh khn wb ps ty wa wc ga tt ow) := hD.addr (ZW_addr.trans ZW_addr.symm)
      clear hP1 hk1
      generalize H1 = H at hP hS ⊢
      refine lv_bipush (v := (-103)) hx hb dL_act_34 (by decide) ?_
      refine lv_icmp_ne (tgt := 43) hx hb dL_act_36 (by decide) (fun c_36 => ?_) (fun c_36 => ?_)
      · exact absurd rfl c_36
      · skip
        refine lv_iconst (v := (nI 1)) hx hb dL_act_39 (by decide) ?_
        refine lv_goto (tgt := 44) hx hb dL_act_40 (by decide) ?_
        subst hAe
        exact wr_z (w1 := fun (u : Nat × Int32 × (Nat → Int32) × (Nat → Int32) × (Nat → Int32) × (Nat → Int32) × (Nat → Int64)) => ZW cI cB a y pl n st ik u.1 nd nh u.2.1 ktd knd knh kbs pg kd u.2.2.1 u.2.2.2.1 u.2.2.2.2.1 dm dn hh hn kag kpa kbo kdm kdn khh khn wb ps ty u.2.2.2.2.2.1 wc u.2.2.2.2.2.2 tt ow) hx hb hr hlocks hS nar_1 (td, bs, ag, pa, bo, wa, ga) hP dL_act_44 (⟨rfl, hzI⟩)
