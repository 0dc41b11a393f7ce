abbrev rm_J0_coder_7d493 : Room := { frames := 0, cells := 0, slots := 0, locals := 0 }
set_option maxRecDepth 100000 in
set_option maxHeartbeats 4000000 in
theorem c_J0_coder_7d493 (l : Launch) (D : va_G) (cI cB : ClassId) (aS aV : Nat)   : Met l yJ0_coder_7d493 (mw yJ0_coder_7d493 cJ0_coder_7d493 1 (some .byte)) rm_J0_coder_7d493 (RPE D cI cB aS aV (fun _ => False) ([]) [.ref aS]) (vp_Si (fun r => r = (nI 0))) 0 0 (fun _ => False) := by
  refine met_ofE (by decide) (Nat.le_of_ble_eq_true rfl) ?_
  intro p e s m below meth c ls hx hb hr hml hown hg hlocks hin hK hE hP hl
  have hSr : va_S (fun _ => False) s.heap s.heap [] := va_S.rf
  have hown : s.vm.findClass RJ0 = some m.cls := hown
  have hl : lv_has ls 1 [(0, .ref aS)] := hl
  refine va_gets hx hb hE.2.1 hSr hown (hg _ gm_263) (fun _ h9 => h9) dJ0_coder_7d493_0 ?_
  refine nv_if_eq (tgt := 13) hx hb dJ0_coder_7d493_3 (by decide) (by decide) (fun c_3 => ?_) (fun c_3 => ?_)
  · exact absurd c_3 (by decide)
  · skip
    refine lv_aload_n hx hb dJ0_coder_7d493_6 rfl (lv_at hl 0 rfl) ?_
    refine vk_getf (v := .int (nI 0)) hx hb (hE.1.1 0 (by decide)).2.1 hSr hown (hg _ gm_355) (fun _ h9 => h9) dJ0_coder_7d493_7 ?_
    refine lv_goto (tgt := 14) hx hb dJ0_coder_7d493_10 (by decide) ?_
    exact rr_z hx hb hr hlocks dJ0_coder_7d493_14 rfl rfl
abbrev rm_J0_length_8abf5 : Room := { frames := 1, cells := 0, slots := 0, locals := 20 }
theorem vf_J0_coder_7d493 : vfacts RJ0 yJ0_coder_7d493 cJ0_coder_7d493 1 (some .byte) 0 := ⟨⟨rfl, by decide +kernel, by decide +kernel, by decide +kernel⟩, gm_260, gm_261, gm_5, gm_262⟩
set_option maxRecDepth 100000 in
set_option maxHeartbeats 4000000 in
theorem c_J0_length_8abf5 (l : Launch) (D : va_G) (cI cB : ClassId) (aS aV : Nat)   : Met l yJ0_length_8abf5 (mw yJ0_length_8abf5 cJ0_length_8abf5 1 (some .int)) rm_J0_length_8abf5 (RPE D cI cB aS aV (fun _ => False) ([]) [.ref aS]) (vp_Si (fun r => r = (nI 5))) 0 0 (fun _ => False) := by
  refine met_ofE (by decide) (Nat.le_of_ble_eq_true rfl) ?_
  intro p e s m below meth c ls hx hb hr hml hown hg hlocks hin hK hE hP hl
  have hSr : va_S (fun _ => False) s.heap s.heap [] := va_S.rf
  have hown : s.vm.findClass RJ0 = some m.cls := hown
  have hl : lv_has ls 1 [(0, .ref aS)] := hl
  refine lv_aload_n hx hb dJ0_length_8abf5_0 rfl (lv_at hl 0 rfl) ?_
  refine vk_getf (v := .ref aV) hx hb (hE.1.1 0 (by decide)).2.2.1 hSr hown (hg _ gm_354) (fun _ h9 => h9) dJ0_length_8abf5_1 ?_
  refine va_tlen (v := nI 5) hx hb (hE.1.1 0 (by decide)).2.2.2 hSr rfl dJ0_length_8abf5_4 ?_
  refine lv_aload_n hx hb dJ0_length_8abf5_5 rfl (lv_at hl 0 rfl) ?_
  refine rdV (As := []) (rest := [.int (nI 5)]) hx hb hml hown hg (c_J0_coder_7d493 l D cI cB aS aV) gm_259 vf_J0_coder_7d493 ⟨Nat.le_of_ble_eq_true rfl, Nat.le_of_ble_eq_true rfl⟩ ⟨rfl, rfl⟩ ⟨Nat.zero_le _, Nat.zero_le _⟩ (RPE.preX hK hE (fun k q h => by simp at h)) rfl hl.1 rfl (Nat.le_of_ble_eq_true rfl) dJ0_length_8abf5_6 ?_
  refine lv_ishr hx hb dJ0_length_8abf5_9 ?_
  exact rr_i hx hb hr hlocks dJ0_length_8abf5_10 (by decide)
abbrev rm_J0_isLatin1_aae02 : Room := { frames := 0, cells := 0, slots := 0, locals := 0 }
set_option maxRecDepth 100000 in
set_option maxHeartbeats 4000000 in
theorem c_J0_isLatin1_aae02 (l : Launch) (D : va_G) (cI cB : ClassId) (aS aV : Nat)   : Met l yJ0_isLatin1_aae02 (mw yJ0_isLatin1_aae02 cJ0_isLatin1_aae02 1 (some .boolean)) rm_J0_isLatin1_aae02 (RPE D cI cB aS aV (fun _ => False) ([]) [.ref aS]) (vp_Si (fun r => r = (nI 1))) 0 0 (fun _ => False) := by
  refine met_ofE (by decide) (Nat.le_of_ble_eq_true rfl) ?_
  intro p e s m below meth c ls hx hb hr hml hown hg hlocks hin hK hE hP hl
  have hSr : va_S (fun _ => False) s.heap s.heap [] := va_S.rf
  have hown : s.vm.findClass RJ0 = some m.cls := hown
  have hl : lv_has ls 1 [(0, .ref aS)] := hl
  refine va_gets hx hb hE.2.1 hSr hown (hg _ gm_263) (fun _ h9 => h9) dJ0_isLatin1_aae02_0 ?_
  refine nv_if_eq (tgt := 17) hx hb dJ0_isLatin1_aae02_3 (by decide) (by decide) (fun c_3 => ?_) (fun c_3 => ?_)
  · exact absurd c_3 (by decide)
  · skip
    refine lv_aload_n hx hb dJ0_isLatin1_aae02_6 rfl (lv_at hl 0 rfl) ?_
    refine vk_getf (v := .int (nI 0)) hx hb (hE.1.1 0 (by decide)).2.1 hSr hown (hg _ gm_355) (fun _ h9 => h9) dJ0_isLatin1_aae02_7 ?_
    refine nv_if_ne (tgt := 17) hx hb dJ0_isLatin1_aae02_10 (by decide) (by decide) (fun c_10 => ?_) (fun c_10 => ?_)
    · exact absurd rfl c_10
    · skip
      refine lv_iconst (v := (nI 1)) hx hb dJ0_isLatin1_aae02_13 (by decide) ?_
      refine lv_goto (tgt := 18) hx hb dJ0_isLatin1_aae02_14 (by decide) ?_
      exact rr_z hx hb hr hlocks dJ0_isLatin1_aae02_18 rfl rfl
abbrev rm_J3_checkIndex_8e157 : Room := { frames := 0, cells := 0, slots := 0, locals := 0 }
set_option maxRecDepth 100000 in
set_option maxHeartbeats 4000000 in
theorem c_J3_checkIndex_8e157 (l : Launch) (D : va_G) (cI cB : ClassId) (aS aV : Nat) (i q : Nat) (vf : Value) (qi : i < q) (qq : q < 2147483648) (hv : vf = .null ∨ ∃ t, vf = .ref t) : Met l yJ3_checkIndex_8e157 (mw yJ3_checkIndex_8e157 cJ3_checkIndex_8e157 3 (some .int)) rm_J3_checkIndex_8e157 (RPE D cI cB aS aV (fun _ => False) ([]) [.int (nI i), .int (nI q), vf]) (vp_Si (fun r => r = (nI i))) 0 0 (fun _ => False) := by
  refine met_ofE (by decide) (by rcases hv with rfl | ⟨t, rfl⟩ <;> exact Nat.le_of_ble_eq_true rfl) ?_
  intro p e s m below meth c ls hx hb hr hml hown hg hlocks hin hK hE hP hl
  have hSr : va_S (fun _ => False) s.heap s.heap [] := va_S.rf
  have hown : s.vm.findClass RJ3 = some m.cls := hown
  have hl : lv_has ls 3 [(0, .int (nI i)), (1, .int (nI q)), (2, vf)] := hl
  refine lv_iload_n hx hb dJ3_checkIndex_8e157_0 rfl (lv_at hl 0 rfl) ?_
  refine nv_if_lt (tgt := 9) hx hb dJ3_checkIndex_8e157_1 (by omega) (by decide) ?_
  refine lv_iload_n hx hb dJ3_checkIndex_8e157_4 rfl (lv_at hl 0 rfl) ?_
  refine lv_iload_n hx hb dJ3_checkIndex_8e157_5 rfl (lv_at hl 1 rfl) ?_
  refine nv_icmp_lt (tgt := 16) hx hb dJ3_checkIndex_8e157_6 (by omega) (by omega) (by decide) (fun c_6 => ?_) (fun c_6 => ?_)
  · skip
    refine lv_iload_n hx hb dJ3_checkIndex_8e157_16 rfl (lv_at hl 0 rfl) ?_
    exact rr_i hx hb hr hlocks dJ3_checkIndex_8e157_17 rfl
  · exact absurd c_6 (by omega)
abbrev rm_J0_checkIndex_df160 : Room := { frames := 1, cells := 0, slots := 0, locals := 22 }
theorem sf_J3_checkIndex_8e157 : sfacts RJ3 yJ3_checkIndex_8e157 cJ3_checkIndex_8e157 3 (some .int) 3 := ⟨⟨rfl, by decide +kernel, by decide +kernel, by decide +kernel⟩, gm_280, gm_7, gm_281⟩
set_option maxRecDepth 100000 in
set_option maxHeartbeats 4000000 in
theorem c_J0_checkIndex_df160 (l : Launch) (D : va_G) (cI cB : ClassId) (aS aV : Nat) (i q : Nat) (qi : i < q) (qq : q < 2147483648) : Met l yJ0_checkIndex_df160 (mw yJ0_checkIndex_df160 cJ0_checkIndex_df160 2 none) rm_J0_checkIndex_df160 (RPE D cI cB aS aV (fun _ => False) ([]) [.int (nI i), .int (nI q)]) (va_Sv (fun _ => True)) 0 0 (fun _ => False) := by
  refine met_ofE (by decide) (Nat.le_of_ble_eq_true rfl) ?_
  intro p e s m below meth c ls hx hb hr hml hown hg hlocks hin hK hE hP hl
  have hSr : va_S (fun _ => False) s.heap s.heap [] := va_S.rf
  have hown : s.vm.findClass RJ0 = some m.cls := hown
  have hl : lv_has ls 2 [(0, .int (nI i)), (1, .int (nI q))] := hl
  refine lv_iload_n hx hb dJ0_checkIndex_df160_0 rfl (lv_at hl 0 rfl) ?_
  refine lv_iload_n hx hb dJ0_checkIndex_df160_1 rfl (lv_at hl 1 rfl) ?_
  obtain ⟨vq, hvc, hvq⟩ : ∃ vq : Value, (vq = .null ∨ ∃ t, vq = .ref t) ∧ va_Z "jdk/internal/util/Preconditions" "SIOOBE_FORMATTER" "Ljava/util/function/BiFunction;" vq (fun _ => False) s s.heap := by rcases hE.2.2 with hz | ⟨t, hz⟩; exact ⟨_, Or.inl rfl, hz⟩; exact ⟨_, Or.inr ⟨t, rfl⟩, hz⟩
  refine va_gets hx hb hvq hSr hown (hg _ gm_278) (fun _ h9 => h9) dJ0_checkIndex_df160_2 ?_
  refine rdS (As := [.int (nI i), .int (nI q), vq]) (rest := []) hx hb hml hown hg (c_J3_checkIndex_8e157 l D cI cB aS aV i q vq (by first | assumption | omega) (by first | assumption | omega) hvc) gm_279 sf_J3_checkIndex_8e157 ⟨Nat.le_of_ble_eq_true rfl, Nat.le_of_ble_eq_true rfl⟩ ⟨rfl, rfl⟩ ⟨Nat.zero_le _, Nat.zero_le _⟩ (RPE.preS hK hE (fun k q h => by simp at h)) rfl hl.1 rfl (Nat.le_of_ble_eq_true rfl) dJ0_checkIndex_df160_5 ?_
  refine lv_pop hx hb dJ0_checkIndex_df160_8 rfl ?_
  exact rr_v hx hb hr hlocks dJ0_checkIndex_df160_9
abbrev rm_J1_charAt_3b067 : Room := { frames := 2, cells := 0, slots := 0, locals := 43 }
theorem sf_J0_checkIndex_df160 : sfacts RJ0 yJ0_checkIndex_df160 cJ0_checkIndex_df160 2 none 2 := ⟨⟨rfl, by decide +kernel, by decide +kernel, by decide +kernel⟩, gm_276, gm_5, gm_277⟩
set_option maxRecDepth 100000 in
set_option maxHeartbeats 4000000 in
theorem c_J1_charAt_3b067 (l : Launch) (D : va_G) (cI cB : ClassId) (aS aV : Nat) (k : Nat) (qk : k < 5) : Met l yJ1_charAt_3b067 (mw yJ1_charAt_3b067 cJ1_charAt_3b067 2 (some .char)) rm_J1_charAt_3b067 (RPE D cI cB aS aV (fun _ => False) ([]) [.ref aV, .int (nI k)]) (vp_Si (fun r => r = (nI (scN k)))) 0 0 (fun _ => False) := by
  refine met_ofE (by decide) (Nat.le_of_ble_eq_true rfl) ?_
  intro p e s m below meth c ls hx hb hr hml hown hg hlocks hin hK hE hP hl
  have hSr : va_S (fun _ => False) s.heap s.heap [] := va_S.rf
  have hown : s.vm.findClass RJ1 = some m.cls := hown
  have hl : lv_has ls 2 [(0, .ref aV), (1, .int (nI k))] := hl
  refine lv_iload_n hx hb dJ1_charAt_3b067_0 rfl (lv_at hl 1 rfl) ?_
  refine lv_aload_n hx hb dJ1_charAt_3b067_1 rfl (lv_at hl 0 rfl) ?_
  refine va_tlen (v := nI 5) hx hb (hE.1.1 0 (by decide)).2.2.2 hSr rfl dJ1_charAt_3b067_2 ?_
  refine rdSv (As := [.int (nI k), .int (nI 5)]) (rest := []) hx hb hml hown hg (c_J0_checkIndex_df160 l D cI cB aS aV k 5 (by first | assumption | omega) (by first | assumption | omega)) gm_275 sf_J0_checkIndex_df160 ⟨Nat.le_of_ble_eq_true rfl, Nat.le_of_ble_eq_true rfl⟩ ⟨rfl, rfl⟩ ⟨Nat.zero_le _, Nat.zero_le _⟩ (RPE.preS hK hE (fun k q h => by simp at h)) rfl hl.1 rfl (Nat.le_of_ble_eq_true rfl) dJ1_charAt_3b067_3 ?_
  refine lv_aload_n hx hb dJ1_charAt_3b067_6 rfl (lv_at hl 0 rfl) ?_
  refine lv_iload_n hx hb dJ1_charAt_3b067_7 rfl (lv_at hl 1 rfl) ?_
  refine va_tb (v := .int (nI (scN k))) hx hb (hE.1.1 0 (by decide)).2.2.2 hSr (vp_in_nI (by show _ < 5; omega) (by decide)) (by rw [nI_clamp (by omega)]; exact sc_at _ (by omega)) dJ1_charAt_3b067_8 ?_
  refine lv_sipush (v := (nI 255)) hx hb dJ1_charAt_3b067_9 (by decide) ?_
  refine lv_iand hx hb dJ1_charAt_3b067_12 ?_
  rw [show (((nI (scN k)) &&& (nI 255)) : Int32) = (nI (scN k)) from sc_and k qk]
  refine lv_i2c (v := (nI (scN k))) hx hb dJ1_charAt_3b067_13 (sc_chr k qk) ?_
  exact rr_z hx hb hr hlocks dJ1_charAt_3b067_14 (sc_nr5 k qk) rfl
abbrev rm_J0_charAt_5068e : Room := { frames := 4, cells := 0, slots := 0, locals := 85 }
theorem vf_J0_isLatin1_aae02 : vfacts RJ0 yJ0_isLatin1_aae02 cJ0_isLatin1_aae02 1 (some .boolean) 0 := ⟨⟨rfl, by decide +kernel, by decide +kernel, by decide +kernel⟩, gm_269, gm_270, gm_5, gm_271⟩
theorem sf_J1_charAt_3b067 : sfacts RJ1 yJ1_charAt_3b067 cJ1_charAt_3b067 2 (some .char) 2 := ⟨⟨rfl, by decide +kernel, by decide +kernel, by decide +kernel⟩, gm_273, gm_6, gm_274⟩
set_option maxRecDepth 100000 in
set_option maxHeartbeats 4000000 in
theorem c_J0_charAt_5068e (l : Launch) (D : va_G) (cI cB : ClassId) (aS aV : Nat) (k : Nat) (qk : k < 5) : Met l yJ0_charAt_5068e (mw yJ0_charAt_5068e cJ0_charAt_5068e 2 (some .char)) rm_J0_charAt_5068e (RPE D cI cB aS aV (fun _ => False) ([]) [.ref aS, .int (nI k)]) (vp_Si (fun r => r = (nI (scN k)))) 0 0 (fun _ => False) := by
  refine met_ofE (by decide) (Nat.le_of_ble_eq_true rfl) ?_
  intro p e s m below meth c ls hx hb hr hml hown hg hlocks hin hK hE hP hl
  have hSr : va_S (fun _ => False) s.heap s.heap [] := va_S.rf
  have hown : s.vm.findClass RJ0 = some m.cls := hown
  have hl : lv_has ls 2 [(0, .ref aS), (1, .int (nI k))] := hl
  refine lv_aload_n hx hb dJ0_charAt_5068e_0 rfl (lv_at hl 0 rfl) ?_
  refine rdV (As := []) (rest := []) hx hb hml hown hg (c_J0_isLatin1_aae02 l D cI cB aS aV) gm_268 vf_J0_isLatin1_aae02 ⟨Nat.le_of_ble_eq_true rfl, Nat.le_of_ble_eq_true rfl⟩ ⟨rfl, rfl⟩ ⟨Nat.zero_le _, Nat.zero_le _⟩ (RPE.preX hK hE (fun k q h => by simp at h)) rfl hl.1 rfl (Nat.le_of_ble_eq_true rfl) dJ0_charAt_5068e_1 ?_
  refine nv_if_eq (tgt := 16) hx hb dJ0_charAt_5068e_4 (by omega) (by decide) (fun c_4 => ?_) (fun c_4 => ?_)
  · exact absurd c_4 (by decide)
  · skip
    refine lv_aload_n hx hb dJ0_charAt_5068e_7 rfl (lv_at hl 0 rfl) ?_
    refine vk_getf (v := .ref aV) hx hb (hE.1.1 0 (by decide)).2.2.1 hSr hown (hg _ gm_354) (fun _ h9 => h9) dJ0_charAt_5068e_8 ?_
    refine lv_iload_n hx hb dJ0_charAt_5068e_11 rfl (lv_at hl 1 rfl) ?_
    refine rdS (As := [.ref aV, .int (nI k)]) (rest := []) hx hb hml hown hg (c_J1_charAt_3b067 l D cI cB aS aV k (by first | assumption | omega)) gm_272 sf_J1_charAt_3b067 ⟨Nat.le_of_ble_eq_true rfl, Nat.le_of_ble_eq_true rfl⟩ ⟨rfl, rfl⟩ ⟨Nat.zero_le _, Nat.zero_le _⟩ (RPE.preS hK hE (fun k q h => by simp at h)) rfl hl.1 rfl (Nat.le_of_ble_eq_true rfl) dJ0_charAt_5068e_12 ?_
    exact rr_z hx hb hr hlocks dJ0_charAt_5068e_15 (sc_nr5 k qk) rfl
abbrev rm_X2_kindOfLetter : Room := { frames := 5, cells := 0, slots := 0, locals := 106 }
theorem vf_J0_length_8abf5 : vfacts RJ0 yJ0_length_8abf5 cJ0_length_8abf5 1 (some .int) 0 := ⟨⟨rfl, by decide +kernel, by decide +kernel, by decide +kernel⟩, gm_256, gm_257, gm_5, gm_258⟩
theorem vf_J0_charAt_5068e : vfacts RJ0 yJ0_charAt_5068e cJ0_charAt_5068e 2 (some .char) 1 := ⟨⟨rfl, by decide +kernel, by decide +kernel, by decide +kernel⟩, gm_265, gm_266, gm_5, gm_267⟩
set_option maxRecDepth 100000 in
set_option maxHeartbeats 4000000 in
theorem c_X2_kindOfLetter (l : Launch) (D : va_G) (cI cB : ClassId) (aS aV : Nat) (x : Nat) (qx : x ≤ 126) : Met l yX2_kindOfLetter (mw yX2_kindOfLetter cX2_kindOfLetter 2 (some .int)) rm_X2_kindOfLetter (RPE D cI cB aS aV (fun _ => False) ([]) [.int (nI x)]) (vp_Si (fun r => r = (kindF x))) 0 0 (fun _ => False) := by
  refine met_ofE (by decide) (Nat.le_of_ble_eq_true rfl) ?_
  intro p e s m below meth c ls hx hb hr hml hown hg hlocks hin hK hE hP hl
  have hSr : va_S (fun _ => False) s.heap s.heap [] := va_S.rf
  have hown : s.vm.findClass RX2 = some m.cls := hown
  have hl : lv_has ls 2 [(0, .int (nI x))] := hl
  refine lv_iconst (v := (nI 0)) hx hb dX2_kindOfLetter_0 (by decide) ?_
  refine lv_istore_n (lv' := [(1, .int (nI 0)), (0, .int (nI x))]) hx hb dX2_kindOfLetter_1 rfl hl (by decide) rfl (fun ls hl => ?_)
  -- loop at 2
  refine loopR (nL := 2) (B := 5) (I := fun i => ∀ k, k < i → ¬ scN k = x) (lv := fun i => [(0, .int (nI x)), (1, .int (nI i))]) 0 (Nat.zero_le _) (fun k h => by omega) (lv_sub hl [1, 0] rfl) (fun i ls hj hI hl ih => ?_)
  have hl : lv_has ls 2 [(0, .int (nI x)), (1, .int (nI i))] := hl
  have hI : ∀ k, k < i → ¬ scN k = x := hI
  have ih_2 := ih
  refine lv_iload_n hx hb dX2_kindOfLetter_2 rfl (lv_at hl 1 rfl) ?_
  refine va_ldcS hx hb hown hK.2.2.2 dX2_kindOfLetter_3 ?_
  refine rdV (As := []) (rest := [.int (nI i)]) hx hb hml hown hg (c_J0_length_8abf5 l D cI cB aS aV) gm_255 vf_J0_length_8abf5 ⟨Nat.le_of_ble_eq_true rfl, Nat.le_of_ble_eq_true rfl⟩ ⟨rfl, rfl⟩ ⟨Nat.zero_le _, Nat.zero_le _⟩ (RPE.preX hK hE (fun k q h => by simp at h)) rfl hl.1 rfl (Nat.le_of_ble_eq_true rfl) dX2_kindOfLetter_5 ?_
  refine nv_icmp_ge (tgt := 29) hx hb dX2_kindOfLetter_8 (by omega) (by omega) (by decide) (fun c_8 => ?_) (fun c_8 => ?_)
  · skip
    refine lv_iconst (v := (-1)) hx hb dX2_kindOfLetter_29 (by decide) ?_
    exact rr_i hx hb hr hlocks dX2_kindOfLetter_30 ((kind_no (fun k h => hI k (by omega))).symm)
  · skip
    refine va_ldcS hx hb hown hK.2.2.2 dX2_kindOfLetter_11 ?_
    refine lv_iload_n hx hb dX2_kindOfLetter_13 rfl (lv_at hl 1 rfl) ?_
    refine rdV (As := [.int (nI i)]) (rest := []) hx hb hml hown hg (c_J0_charAt_5068e l D cI cB aS aV i (by first | assumption | omega)) gm_264 vf_J0_charAt_5068e ⟨Nat.le_of_ble_eq_true rfl, Nat.le_of_ble_eq_true rfl⟩ ⟨rfl, rfl⟩ ⟨Nat.zero_le _, Nat.zero_le _⟩ (RPE.preX hK hE (fun k q h => by simp at h)) rfl hl.1 rfl (Nat.le_of_ble_eq_true rfl) dX2_kindOfLetter_14 ?_
    refine lv_iload_n hx hb dX2_kindOfLetter_17 rfl (lv_at hl 0 rfl) ?_
    refine nv_icmp_ne (tgt := 23) hx hb dX2_kindOfLetter_18 (by have := scN_lt i (by omega); omega) (by omega) (by decide) (fun c_18 => ?_) (fun c_18 => ?_)
    · skip
      refine lv_iinc (v := (nI (i + 1))) (lv' := [(1, .int (nI (i + 1))), (0, .int (nI x))]) hx hb dX2_kindOfLetter_23 hl (k := 1) rfl (nI_i1 _) (by decide) rfl (fun ls hl => ?_)
      refine lv_goto (tgt := 2) hx hb dX2_kindOfLetter_26 (by decide) ?_
      exact ih_2 _ (by omega) ((fun k h => by rcases Nat.lt_succ_iff_lt_or_eq.mp h with h | h; exact hI k h; rw [h]; exact c_18)) (lv_sub hl [1, 0] rfl)
    · skip
      refine lv_iload_n hx hb dX2_kindOfLetter_21 rfl (lv_at hl 1 rfl) ?_
      exact rr_i hx hb hr hlocks dX2_kindOfLetter_22 (by rw [← c_18]; exact (kind_at i (by omega)).symm)
abbrev rm_X2_canStandAt : Room := { frames := 6, cells := 0, slots := 0, locals := 127 }
theorem sf_X2_kindOfLetter : sfacts RX2 yX2_kindOfLetter cX2_kindOfLetter 2 (some .int) 1 := ⟨⟨rfl, by decide +kernel, by decide +kernel, by decide +kernel⟩, gm_252, gm_2, gm_253⟩
set_option maxRecDepth 100000 in
set_option maxHeartbeats 4000000 in
theorem c_X2_canStandAt (l : Launch) (D : va_G) (cI cB : ClassId) (aS aV : Nat) (k x : Nat) (qk : k < 19) (qx : x ≤ 126) : Met l yX2_canStandAt (mw yX2_canStandAt cX2_canStandAt 2 (some .boolean)) rm_X2_canStandAt (RPE D cI cB aS aV (fun _ => False) ([]) [.int (nI k), .int (nI x)]) (vp_Si (fun r => r = (bi (gdX k x = true)))) 0 0 (fun _ => False) := by
  refine met_ofE (by decide) (Nat.le_of_ble_eq_true rfl) ?_
  intro p e s m below meth c ls hx hb hr hml hown hg hlocks hin hK hE hP hl
  have hSr : va_S (fun _ => False) s.heap s.heap [] := va_S.rf
  have hown : s.vm.findClass RX2 = some m.cls := hown
  have hl : lv_has ls 2 [(0, .int (nI k)), (1, .int (nI x))] := hl
  refine lv_iload_n hx hb dX2_canStandAt_0 rfl (lv_at hl 0 rfl) ?_
  refine lv_bipush (v := (nI 17)) hx hb dX2_canStandAt_1 (by decide) ?_
  refine nv_icmp_lt (tgt := 8) hx hb dX2_canStandAt_3 (by omega) (by omega) (by decide) (fun c_3 => ?_) (fun c_3 => ?_)
  · skip
    refine lv_iload_n hx hb dX2_canStandAt_8 rfl (lv_at hl 0 rfl) ?_
    refine lv_iconst (v := (nI 3)) hx hb dX2_canStandAt_9 (by decide) ?_
    refine nv_irem hx hb dX2_canStandAt_10 (by omega) (by omega) (by omega) ?_
    by_cases c_11_0 : k % 3 = 0
    · refine lv_lookup (off := 25) (tgt := 36) hx hb dX2_canStandAt_11 (by decide) (by rw [c_11_0]; decide) (by decide) ?_
      refine lv_iload_n hx hb dX2_canStandAt_36 rfl (lv_at hl 1 rfl) ?_
      refine rdS (As := [.int (nI x)]) (rest := []) hx hb hml hown hg (c_X2_kindOfLetter l D cI cB aS aV x (by first | assumption | omega)) gm_251 sf_X2_kindOfLetter ⟨Nat.le_of_ble_eq_true rfl, Nat.le_of_ble_eq_true rfl⟩ ⟨rfl, rfl⟩ ⟨Nat.zero_le _, Nat.zero_le _⟩ (RPE.preS hK hE (fun k q h => by simp at h)) rfl hl.1 rfl (Nat.le_of_ble_eq_true rfl) dX2_canStandAt_37 ?_
      refine lv_iconst (v := (-1)) hx hb dX2_canStandAt_40 (by decide) ?_
      refine lv_icmp_eq (tgt := 48) hx hb dX2_canStandAt_41 (by decide) (fun c_41 => ?_) (fun c_41 => ?_)
      · skip
        refine lv_iconst (v := (nI 0)) hx hb dX2_canStandAt_48 (by decide) ?_
        exact rr_z hx hb hr hlocks dX2_canStandAt_49 bi_nar (ret_f (fun q => (gdX_0 c_3 c_11_0).mp q c_41))
      · skip
        refine lv_iconst (v := (nI 1)) hx hb dX2_canStandAt_44 (by decide) ?_
        refine lv_goto (tgt := 49) hx hb dX2_canStandAt_45 (by decide) ?_
        exact rr_z hx hb hr hlocks dX2_canStandAt_49 bi_nar (ret_t ((gdX_0 c_3 c_11_0).mpr c_41))
    by_cases c_11_1 : k % 3 = 1
    · refine lv_lookup (off := 39) (tgt := 50) hx hb dX2_canStandAt_11 (by decide) (by rw [c_11_1]; decide) (by decide) ?_
      refine lv_iload_n hx hb dX2_canStandAt_50 rfl (lv_at hl 1 rfl) ?_
      refine lv_bipush (v := (nI 48)) hx hb dX2_canStandAt_51 (by decide) ?_
      refine nv_icmp_lt (tgt := 66) hx hb dX2_canStandAt_53 (by omega) (by omega) (by decide) (fun c_53 => ?_) (fun c_53 => ?_)
      · skip
        refine lv_iconst (v := (nI 0)) hx hb dX2_canStandAt_66 (by decide) ?_
        exact rr_z hx hb hr hlocks dX2_canStandAt_67 bi_nar (ret_f (fun q => by have := (gdX_1 c_3 c_11_1).mp q; omega))
      · skip
        refine lv_iload_n hx hb dX2_canStandAt_56 rfl (lv_at hl 1 rfl) ?_
        refine lv_bipush (v := (nI 57)) hx hb dX2_canStandAt_57 (by decide) ?_
        refine nv_icmp_gt (tgt := 66) hx hb dX2_canStandAt_59 (by omega) (by omega) (by decide) (fun c_59 => ?_) (fun c_59 => ?_)
        · skip
          refine lv_iconst (v := (nI 0)) hx hb dX2_canStandAt_66 (by decide) ?_
          exact rr_z hx hb hr hlocks dX2_canStandAt_67 bi_nar (ret_f (fun q => by have := (gdX_1 c_3 c_11_1).mp q; omega))
        · skip
          refine lv_iconst (v := (nI 1)) hx hb dX2_canStandAt_62 (by decide) ?_
          refine lv_goto (tgt := 67) hx hb dX2_canStandAt_63 (by decide) ?_
          exact rr_z hx hb hr hlocks dX2_canStandAt_67 bi_nar (ret_t ((gdX_1 c_3 c_11_1).mpr (by omega)))
    have q_11_0 : ¬ nI (k % 3) = nI 0 := fun h => c_11_0 ((nI_eq (by omega) (by omega)).mp h)
    have q_11_1 : ¬ nI (k % 3) = nI 1 := fun h => c_11_1 ((nI_eq (by omega) (by omega)).mp h)
    refine lv_lookup (off := 57) (tgt := 68) hx hb dX2_canStandAt_11 (by decide) (by show Op.lookupswitch.offset [(0, 25), (1, 39)] 57 _ = 57; rw [lv_osw (a := 0) (q_11_0) (by decide), lv_osw (a := 1) (q_11_1) (by decide)]; rfl) (by decide) ?_
    refine lv_iload_n hx hb dX2_canStandAt_68 rfl (lv_at hl 1 rfl) ?_
    refine lv_bipush (v := (nI 44)) hx hb dX2_canStandAt_69 (by decide) ?_
    refine nv_icmp_ne (tgt := 78) hx hb dX2_canStandAt_71 (by omega) (by omega) (by decide) (fun c_71 => ?_) (fun c_71 => ?_)
    · skip
      refine lv_iconst (v := (nI 0)) hx hb dX2_canStandAt_78 (by decide) ?_
      exact rr_z hx hb hr hlocks dX2_canStandAt_79 bi_nar (ret_f (fun q => c_71 ((gdX_2 c_3 c_11_0 c_11_1).mp q)))
    · skip
      refine lv_iconst (v := (nI 1)) hx hb dX2_canStandAt_74 (by decide) ?_
      refine lv_goto (tgt := 79) hx hb dX2_canStandAt_75 (by decide) ?_
      exact rr_z hx hb hr hlocks dX2_canStandAt_79 bi_nar (ret_t ((gdX_2 c_3 c_11_0 c_11_1).mpr c_71))
  · skip
    refine lv_iconst (v := (nI 0)) hx hb dX2_canStandAt_6 (by decide) ?_
    exact rr_z hx hb hr hlocks dX2_canStandAt_7 bi_nar (ret_f (gdX_n (by omega)))
abbrev rm_X2_fault : Room := { frames := 7, cells := 0, slots := 0, locals := 148 }
theorem sf_X2_canStandAt : sfacts RX2 yX2_canStandAt cX2_canStandAt 2 (some .boolean) 2 := ⟨⟨rfl, by decide +kernel, by decide +kernel, by decide +kernel⟩, gm_249, gm_2, gm_250⟩
set_option maxRecDepth 100000 in
set_option maxHeartbeats 4000000 in
theorem c_X2_fault (l : Launch) (D : va_G) (cI cB : ClassId) (aS aV : Nat) (a : Nat → Nat) (pl n st : Nat) (ik : Int32) (td nd nh : Nat) (bs : Int32) (ktd knd knh : Nat) (kbs : Int32) (pg kd ag pa bo dm dn hh hn kag kpa kbo kdm kdn khh khn wb ps ty : Nat → Int32)  (qpl : pl ≤ 19) (qpg : pgOK pg pl) : Met l yX2_fault (mw yX2_fault cX2_fault 2 (some .int)) rm_X2_fault (RPE D cI cB aS aV (fun _ => False) (XW cI a pl n st ik td nd nh bs ktd knd knh kbs pg kd ag pa bo dm dn hh hn kag kpa kbo kdm kdn khh khn wb ps ty) [.ref (a 0)]) (vp_Si (fun r => r = (nI (ftF pg pl)))) 0 0 (fun _ => False) := by
  refine met_ofE (by decide) (Nat.le_of_ble_eq_true rfl) ?_
  intro p e s m below meth c ls hx hb hr hml hown hg hlocks hin hK hE hP hl
  have hSr : va_S (fun _ => False) s.heap s.heap [] := va_S.rf
  have hown : s.vm.findClass RX2 = some m.cls := hown
  have hl : lv_has ls 2 [(0, .ref (a 0))] := hl
  refine lv_iconst (v := (nI 0)) hx hb dX2_fault_0 (by decide) ?_
  refine lv_istore_n (lv' := [(1, .int (nI 0)), (0, .ref (a 0))]) hx hb dX2_fault_1 rfl hl (by decide) rfl (fun ls hl => ?_)
  -- loop at 2
  refine loopR (nL := 2) (B := pl) (I := fun i => ∀ j, j < i → gdX j (pg j).toNatClampNeg = true) (lv := fun i => [(0, .ref (a 0)), (1, .int (nI i))]) 0 (Nat.zero_le _) (fun j h => by omega) (lv_sub hl [1, 0] rfl) (fun i ls hj hI hl ih => ?_)
  have hl : lv_has ls 2 [(0, .ref (a 0)), (1, .int (nI i))] := hl
  have hI : ∀ j, j < i → gdX j (pg j).toNatClampNeg = true := hI
  have ih_2 := ih
  refine lv_iload_n hx hb dX2_fault_2 rfl (lv_at hl 1 rfl) ?_
  refine lv_aload_n hx hb dX2_fault_3 rfl (lv_at hl 0 rfl) ?_
  refine va_get (D := D) (ci := 2) (v := .int (nI pl)) (C := RX2) (T := TX2) (N := 11) hx hb hg us_X2 hown hK.1 hP 0 XW_g0 rfl 1 (by decide) (hg _ gm_67) (fun _ h9 => h9) rfl dX2_fault_4 ?_
  refine nv_icmp_ge (tgt := 33) hx hb dX2_fault_7 (by omega) (by omega) (by decide) (fun c_7 => ?_) (fun c_7 => ?_)
  · skip
    refine lv_aload_n hx hb dX2_fault_33 rfl (lv_at hl 0 rfl) ?_
    refine va_get (D := D) (ci := 2) (v := .int (nI pl)) (C := RX2) (T := TX2) (N := 11) hx hb hg us_X2 hown hK.1 hP 0 XW_g0 rfl 1 (by decide) (hg _ gm_67) (fun _ h9 => h9) rfl dX2_fault_34 ?_
    exact rr_i hx hb hr hlocks dX2_fault_37 (by unfold ftF; rw [fz_all (fun j _ h => hI j (by omega)), Nat.zero_add])
  · skip
    refine lv_iload_n hx hb dX2_fault_10 rfl (lv_at hl 1 rfl) ?_
    refine lv_aload_n hx hb dX2_fault_11 rfl (lv_at hl 0 rfl) ?_
    refine va_get (D := D) (ci := 2) (v := .ref (a 1)) (C := RX2) (T := TX2) (N := 11) hx hb hg us_X2 hown hK.1 hP 0 XW_g0 rfl 0 (by decide) (hg _ gm_66) (fun _ h9 => h9) rfl dX2_fault_12 ?_
    refine lv_iload_n hx hb dX2_fault_15 rfl (lv_at hl 1 rfl) ?_
    have hP_1 : va_P D vwCl [(a 1, .inr (1, [.ref (a 2)])), (a 2, .inl (cI, 19, .inl pg))] _ := P_s2 hP XW_g1 XW_g2
    refine rdV (As := [.int (nI i)]) (rest := [.int (nI i)]) hx hb hml hown hg (c_X1_at l D cI cB aS (a 1) (a 2) 19 pg i (by first | assumption | omega) (by first | assumption | omega)) gm_95 vf_X1_at ⟨Nat.le_of_ble_eq_true rfl, Nat.le_of_ble_eq_true rfl⟩ ⟨rfl, rfl⟩ ⟨Nat.zero_le _, Nat.zero_le _⟩ (RP.preV hK hP_1 (q0 := 0) (ci := 1) rfl rfl) rfl hl.1 rfl (Nat.le_of_ble_eq_true rfl) dX2_fault_16 ?_
    rw [show ((pg i) : Int32) = (nI ((pg i).toNatClampNeg)) from (qpg i (by omega)).1]
    refine rdS (As := [.int (nI i), .int (nI ((pg i).toNatClampNeg))]) (rest := []) hx hb hml hown hg (c_X2_canStandAt l D cI cB aS aV i ((pg i).toNatClampNeg) (by first | assumption | omega) (qpg i (by omega)).2.2) gm_248 sf_X2_canStandAt ⟨Nat.le_of_ble_eq_true rfl, Nat.le_of_ble_eq_true rfl⟩ ⟨rfl, rfl⟩ ⟨Nat.zero_le _, Nat.zero_le _⟩ (RPE.preS hK hE (fun k q h => by simp at h)) rfl hl.1 rfl (Nat.le_of_ble_eq_true rfl) dX2_fault_19 ?_
    refine bv_if_ne (tgt := 27) hx hb dX2_fault_22 (by decide) (fun c_22 => ?_) (fun c_22 => ?_)
    · skip
      refine lv_iinc (v := (nI (i + 1))) (lv' := [(1, .int (nI (i + 1))), (0, .ref (a 0))]) hx hb dX2_fault_27 hl (k := 1) rfl (nI_i1 _) (by decide) rfl (fun ls hl => ?_)
      refine lv_goto (tgt := 2) hx hb dX2_fault_30 (by decide) ?_
      exact ih_2 _ (by omega) ((fun j h => by rcases Nat.lt_succ_iff_lt_or_eq.mp h with h | h; exact hI j h; rw [h]; exact c_22)) (lv_sub hl [1, 0] rfl)
    · skip
      refine lv_iload_n hx hb dX2_fault_25 rfl (lv_at hl 1 rfl) ?_
      exact rr_i hx hb hr hlocks dX2_fault_26 (by unfold ftF; rw [fz_go (k := i) (by omega) (by omega) (fun j _ h => hI j h) (Bool.eq_false_iff.mpr c_22)])
abbrev rm_X2_housesOnPage : Room := { frames := 8, cells := 0, slots := 0, locals := 169 }
theorem vf_X2_fault : vfacts RX2 yX2_fault cX2_fault 2 (some .int) 0 := ⟨⟨rfl, by decide +kernel, by decide +kernel, by decide +kernel⟩, gm_245, gm_246, gm_2, gm_247⟩
set_option maxRecDepth 100000 in
set_option maxHeartbeats 4000000 in
theorem c_X2_housesOnPage (l : Launch) (D : va_G) (cI cB : ClassId) (aS aV : Nat) (a : Nat → Nat) (pl n st : Nat) (ik : Int32) (td nd nh : Nat) (bs : Int32) (ktd knd knh : Nat) (kbs : Int32) (pg kd ag pa bo dm dn hh hn kag kpa kbo kdm kdn khh khn wb ps ty : Nat → Int32)  (qpl : pl ≤ 19) (qpg : pgOK pg pl) : Met l yX2_housesOnPage (mw yX2_housesOnPage cX2_housesOnPage 2 (some .int)) rm_X2_housesOnPage (RPE D cI cB aS aV (fun _ => False) (XW cI a pl n st ik td nd nh bs ktd knd knh kbs pg kd ag pa bo dm dn hh hn kag kpa kbo kdm kdn khh khn wb ps ty) [.ref (a 0)]) (vp_Si (fun r => r = (nI (if pl % 3 = 2 ∧ ftF pg pl = pl then (pl + 1) / 3 else 0)))) 0 0 (fun _ => False) := by
  refine met_ofE (by decide) (Nat.le_of_ble_eq_true rfl) ?_
  intro p e s m below meth c ls hx hb hr hml hown hg hlocks hin hK hE hP hl
  have hSr : va_S (fun _ => False) s.heap s.heap [] := va_S.rf
  have hown : s.vm.findClass RX2 = some m.cls := hown
  have hl : lv_has ls 2 [(0, .ref (a 0))] := hl
  refine lv_aload_n hx hb dX2_housesOnPage_0 rfl (lv_at hl 0 rfl) ?_
  refine va_get (D := D) (ci := 2) (v := .int (nI pl)) (C := RX2) (T := TX2) (N := 11) hx hb hg us_X2 hown hK.1 hP 0 XW_g0 rfl 1 (by decide) (hg _ gm_67) (fun _ h9 => h9) rfl dX2_housesOnPage_1 ?_
  refine lv_iconst (v := (nI 3)) hx hb dX2_housesOnPage_4 (by decide) ?_
  refine nv_irem hx hb dX2_housesOnPage_5 (by omega) (by omega) (by omega) ?_
  refine lv_iconst (v := (nI 2)) hx hb dX2_housesOnPage_6 (by decide) ?_
  refine nv_icmp_ne (tgt := 14) hx hb dX2_housesOnPage_7 (by omega) (by omega) (by decide) (fun c_7 => ?_) (fun c_7 => ?_)
  · skip
    refine lv_iconst (v := (nI 0)) hx hb dX2_housesOnPage_14 (by decide) ?_
    refine lv_istore_n (lv' := [(1, .int (nI 0)), (0, .ref (a 0))]) hx hb dX2_housesOnPage_15 rfl hl (by decide) rfl (fun ls hl => ?_)
    refine lv_iload_n hx hb dX2_housesOnPage_16 rfl (lv_at hl 0 rfl) ?_
    refine nv_if_eq (tgt := 31) hx hb dX2_housesOnPage_17 (by omega) (by decide) (fun c_17 => ?_) (fun c_17 => ?_)
    · skip
      refine lv_iconst (v := (nI 0)) hx hb dX2_housesOnPage_31 (by decide) ?_
      exact rr_i hx hb hr hlocks dX2_housesOnPage_32 (by rw [if_neg (fun q => c_7 q.1)])
    · exact absurd rfl c_17
  · skip
    refine lv_iconst (v := (nI 1)) hx hb dX2_housesOnPage_10 (by decide) ?_
    refine lv_goto (tgt := 15) hx hb dX2_housesOnPage_11 (by decide) ?_
    refine lv_istore_n (lv' := [(1, .int (nI 1)), (0, .ref (a 0))]) hx hb dX2_housesOnPage_15 rfl hl (by decide) rfl (fun ls hl => ?_)
    refine lv_iload_n hx hb dX2_housesOnPage_16 rfl (lv_at hl 0 rfl) ?_
    refine nv_if_eq (tgt := 31) hx hb dX2_housesOnPage_17 (by omega) (by decide) (fun c_17 => ?_) (fun c_17 => ?_)
    · exact absurd c_17 (by decide)
    · skip
      refine lv_aload_n hx hb dX2_housesOnPage_20 rfl (lv_at hl 1 rfl) ?_
      refine rdV (As := []) (rest := []) hx hb hml hown hg (c_X2_fault l D cI cB aS aV _ pl n st ik td nd nh bs ktd knd knh kbs pg kd ag pa bo dm dn hh hn kag kpa kbo kdm kdn khh khn wb ps ty (by first | assumption | omega) (by first | assumption | omega)) gm_305 vf_X2_fault ⟨Nat.le_of_ble_eq_true rfl, Nat.le_of_ble_eq_true rfl⟩ ⟨rfl, rfl⟩ ⟨Nat.zero_le _, Nat.zero_le _⟩ (RPE.preV hK hE hP (q0 := 0) (ci := 2) XW_g0 rfl) rfl hl.1 rfl (Nat.le_of_ble_eq_true rfl) dX2_housesOnPage_21 ?_
      refine lv_aload_n hx hb dX2_housesOnPage_24 rfl (lv_at hl 1 rfl) ?_
      refine va_get (D := D) (ci := 2) (v := .int (nI pl)) (C := RX2) (T := TX2) (N := 11) hx hb hg us_X2 hown hK.1 hP 0 XW_g0 rfl 1 (by decide) (hg _ gm_67) (fun _ h9 => h9) rfl dX2_housesOnPage_25 ?_
      refine nv_icmp_eq (tgt := 33) hx hb dX2_housesOnPage_28 (by have := fz_le (p := fun k => gdX k (pg k).toNatClampNeg) (n := pl) (lo := 0); unfold ftF; omega) (by omega) (by decide) (fun c_28 => ?_) (fun c_28 => ?_)
      · skip
        refine lv_aload_n hx hb dX2_housesOnPage_33 rfl (lv_at hl 1 rfl) ?_
        refine va_get (D := D) (ci := 2) (v := .int (nI pl)) (C := RX2) (T := TX2) (N := 11) hx hb hg us_X2 hown hK.1 hP 0 XW_g0 rfl 1 (by decide) (hg _ gm_67) (fun _ h9 => h9) rfl dX2_housesOnPage_34 ?_
        refine lv_iconst (v := (nI 1)) hx hb dX2_housesOnPage_37 (by decide) ?_
        refine nv_iadd hx hb dX2_housesOnPage_38 ?_
        refine lv_iconst (v := (nI 3)) hx hb dX2_housesOnPage_39 (by decide) ?_
        refine nv_idiv hx hb dX2_housesOnPage_40 (by omega) (by omega) (by omega) ?_
        exact rr_i hx hb hr hlocks dX2_housesOnPage_41 (by rw [if_pos ⟨c_7, c_28⟩])
      · skip
        refine lv_iconst (v := (nI 0)) hx hb dX2_housesOnPage_31 (by decide) ?_
        exact rr_i hx hb hr hlocks dX2_housesOnPage_32 (by rw [if_neg (fun q => c_28 q.2)])
abbrev rm_X2_street : Room := { frames := 9, cells := 0, slots := 0, locals := 190 }
theorem vf_X2_housesOnPage : vfacts RX2 yX2_housesOnPage cX2_housesOnPage 2 (some .int) 0 := ⟨⟨rfl, by decide +kernel, by decide +kernel, by decide +kernel⟩, gm_303, gm_374, gm_2, gm_304⟩
theorem XW_set_13 {cI : ClassId} {a : Nat → Nat} {pl n st : Nat} {ik : Int32} {td nd nh : Nat} {bs : Int32} {ktd knd knh : Nat} {kbs : Int32} {pg kd ag pa bo dm dn hh hn kag kpa kbo kdm kdn khh khn wb ps ty : Nat → Int32} {z0 : Nat} : List.set (XW cI a pl n st ik td nd nh bs ktd knd knh kbs pg kd ag pa bo dm dn hh hn kag kpa kbo kdm kdn khh khn wb ps ty) 0 (a 0, .inr (2, List.set [.ref (a 1), .int (nI pl), .int (nI n), .int (nI st), .ref (a 3), .ref (a 5), .ref (a 20), .int ik, .ref (a 35), .ref (a 37), .ref (a 39)] 2 (.int (nI z0)))) = XW cI a pl z0 st ik td nd nh bs ktd knd knh kbs pg kd ag pa bo dm dn hh hn kag kpa kbo kdm kdn khh khn wb ps ty := rfl
theorem vf_X0_startAnew : vfacts RX0 yX0_startAnew cX0_startAnew 1 none 0 := ⟨⟨rfl, by decide +kernel, by decide +kernel, by decide +kernel⟩, gm_307, gm_308, gm_4, gm_309⟩
theorem XW_wsets_14 {cI : ClassId} {a : Nat → Nat} {pl n st : Nat} {ik : Int32} {td nd nh : Nat} {bs : Int32} {ktd knd knh : Nat} {kbs : Int32} {pg kd ag pa bo dm dn hh hn kag kpa kbo kdm kdn khh khn wb ps ty : Nat → Int32} {z0 : Nat} {z1 : Int32} {z2 : Nat} {z3 : Nat} {z4 : Nat → Int32} : wsets (XW cI a pl n st ik td nd nh bs ktd knd knh kbs pg kd ag pa bo dm dn hh hn kag kpa kbo kdm kdn khh khn wb ps ty) [5, 8, 15] [(a 5, .inr (0, [.int (nI z0), .int z1, .int (nI z2), .int (nI z3), .ref (a 6), .ref (a 7), .ref (a 8), .ref (a 9), .ref (a 10), .ref (a 11), .ref (a 12)])), (a 8, .inr (1, [.ref (a 15)])), (a 15, .inl (cI, 6, .inl z4))] = XW cI a pl n st ik z0 z2 z3 z1 ktd knd knh kbs pg kd ag pa z4 dm dn hh hn kag kpa kbo kdm kdn khh khn wb ps ty := rfl
theorem XW_set_15 {cI : ClassId} {a : Nat → Nat} {pl n st : Nat} {ik : Int32} {td nd nh : Nat} {bs : Int32} {ktd knd knh : Nat} {kbs : Int32} {pg kd ag pa bo dm dn hh hn kag kpa kbo kdm kdn khh khn wb ps ty : Nat → Int32} {z0 : Int32} : List.set (XW cI a pl n st ik td nd nh bs ktd knd knh kbs pg kd ag pa bo dm dn hh hn kag kpa kbo kdm kdn khh khn wb ps ty) 0 (a 0, .inr (2, List.set [.ref (a 1), .int (nI pl), .int (nI n), .int (nI st), .ref (a 3), .ref (a 5), .ref (a 20), .int ik, .ref (a 35), .ref (a 37), .ref (a 39)] 7 (.int z0))) = XW cI a pl n st z0 td nd nh bs ktd knd knh kbs pg kd ag pa bo dm dn hh hn kag kpa kbo kdm kdn khh khn wb ps ty := rfl
theorem XW_set_16 {cI : ClassId} {a : Nat → Nat} {pl n st : Nat} {ik : Int32} {td nd nh : Nat} {bs : Int32} {ktd knd knh : Nat} {kbs : Int32} {pg kd ag pa bo dm dn hh hn kag kpa kbo kdm kdn khh khn wb ps ty : Nat → Int32} {z0 : Nat} : List.set (XW cI a pl n st ik td nd nh bs ktd knd knh kbs pg kd ag pa bo dm dn hh hn kag kpa kbo kdm kdn khh khn wb ps ty) 0 (a 0, .inr (2, List.set [.ref (a 1), .int (nI pl), .int (nI n), .int (nI st), .ref (a 3), .ref (a 5), .ref (a 20), .int ik, .ref (a 35), .ref (a 37), .ref (a 39)] 3 (.int (nI z0)))) = XW cI a pl n z0 ik td nd nh bs ktd knd knh kbs pg kd ag pa bo dm dn hh hn kag kpa kbo kdm kdn khh khn wb ps ty := rfl
theorem XW_wsets_17 {cI : ClassId} {a : Nat → Nat} {pl n st : Nat} {ik : Int32} {td nd nh : Nat} {bs : Int32} {ktd knd knh : Nat} {kbs : Int32} {pg kd ag pa bo dm dn hh hn kag kpa kbo kdm kdn khh khn wb ps ty : Nat → Int32} {z0 : Nat → Int32} : wsets (XW cI a pl n st ik td nd nh bs ktd knd knh kbs pg kd ag pa bo dm dn hh hn kag kpa kbo kdm kdn khh khn wb ps ty) [3, 4] [(a 3, .inr (1, [.ref (a 4)])), (a 4, .inl (cI, 6, .inl z0))] = XW cI a pl n st ik td nd nh bs ktd knd knh kbs pg z0 ag pa bo dm dn hh hn kag kpa kbo kdm kdn khh khn wb ps ty := rfl
theorem XW_wsets_18 {cI : ClassId} {a : Nat → Nat} {pl n st : Nat} {ik : Int32} {td nd nh : Nat} {bs : Int32} {ktd knd knh : Nat} {kbs : Int32} {pg kd ag pa bo dm dn hh hn kag kpa kbo kdm kdn khh khn wb ps ty : Nat → Int32} {z0 : Nat → Int32} : wsets (XW cI a pl n st ik td nd nh bs ktd knd knh kbs pg kd ag pa bo dm dn hh hn kag kpa kbo kdm kdn khh khn wb ps ty) [6, 13] [(a 6, .inr (1, [.ref (a 13)])), (a 13, .inl (cI, 6, .inl z0))] = XW cI a pl n st ik td nd nh bs ktd knd knh kbs pg kd z0 pa bo dm dn hh hn kag kpa kbo kdm kdn khh khn wb ps ty := rfl
set_option maxRecDepth 100000 in
set_option maxHeartbeats 4000000 in
theorem c_X2_street (l : Launch) (D : va_G) (cI cB : ClassId) (aS aV : Nat) (a : Nat → Nat) (pl n st : Nat) (ik : Int32) (td nd nh : Nat) (bs : Int32) (ktd knd knh : Nat) (kbs : Int32) (pg kd ag pa bo dm dn hh hn kag kpa kbo kdm kdn khh khn wb ps ty : Nat → Int32)  (hD0 : va_D (fun _ => True) (XW cI a pl n st ik td nd nh bs ktd knd knh kbs pg kd ag pa bo dm dn hh hn kag kpa kbo kdm kdn khh khn wb ps ty)) (qpl : pl ≤ 19) (qpg : pgOK pg pl) : Met l yX2_street (mw yX2_street cX2_street 4 (some .int)) rm_X2_street (RPE D cI cB aS aV (inW (XW cI a pl n st ik td nd nh bs ktd knd knh kbs pg kd ag pa bo dm dn hh hn kag kpa kbo kdm kdn khh khn wb ps ty)) (XW cI a pl n st ik td nd nh bs ktd knd knh kbs pg kd ag pa bo dm dn hh hn kag kpa kbo kdm kdn khh khn wb ps ty) [.ref (a 0)]) (wq mkI (XW cI a pl n st ik td nd nh bs ktd knd knh kbs pg kd ag pa bo dm dn hh hn kag kpa kbo kdm kdn khh khn wb ps ty) (fun (u : Bool) => cond u (XW cI a 0 ((pl + 1) / 3) (st + 1) (nI 0) 0 0 0 (nI 0) ktd knd knh kbs pg (cpF (stK pg) kd ((pl + 1) / 3)) (cpF (stA pg) ag ((pl + 1) / 3)) pa (fun _ => nI 0) dm dn hh hn kag kpa kbo kdm kdn khh khn wb ps ty) (XW cI a pl n st ik td nd nh bs ktd knd knh kbs pg kd ag pa bo dm dn hh hn kag kpa kbo kdm kdn khh khn wb ps ty)) D (fun (r : Int32) (u : Bool) => (stOK pg pl ∧ r = nI ((pl + 1) / 3) ∧ u = true) ∨ (¬ stOK pg pl ∧ r = -103 ∧ u = false))) 0 0 (inW (XW cI a pl n st ik td nd nh bs ktd knd knh kbs pg kd ag pa bo dm dn hh hn kag kpa kbo kdm kdn khh khn wb ps ty)) := by
  refine met_ofE (by decide) (Nat.le_of_ble_eq_true rfl) ?_
  intro p e s m below meth c ls hx hb hr hml hown hg hlocks hin hK hE hP hl
  have hown : s.vm.findClass RX2 = some m.cls := hown
  have hl : lv_has ls 4 [(0, .ref (a 0))] := hl
  have hD := hD0.here
  have hS0 : va_S (inW (XW cI a pl n st ik td nd nh bs ktd knd knh kbs pg kd ag pa bo dm dn hh hn kag kpa kbo kdm kdn khh khn wb ps ty)) s.heap s.heap [] := va_S.rf
  obtain ⟨H, hH⟩ : ∃ H, H = s.heap := ⟨_, rfl⟩
  have hS : va_S (inW (XW cI a pl n st ik td nd nh bs ktd knd knh kbs pg kd ag pa bo dm dn hh hn kag kpa kbo kdm kdn khh khn wb ps ty)) s.heap H [] := by rw [hH]; exact hS0
  clear hS0
  rw [← hH] at hP ⊢
  generalize hAe : inW (XW cI a pl n st ik td nd nh bs ktd knd knh kbs pg kd ag pa bo dm dn hh hn kag kpa kbo kdm kdn khh khn wb ps ty) = A at hD hS hE ⊢
  refine lv_aload_n hx hb dX2_street_0 rfl (lv_at hl 0 rfl) ?_
  refine rdV (As := []) (rest := []) hx hb hml hown hg (c_X2_housesOnPage l D cI cB aS aV _ pl n st ik td nd nh bs ktd knd knh kbs pg kd ag pa bo dm dn hh hn kag kpa kbo kdm kdn khh khn wb ps ty (by first | assumption | omega) (by first | assumption | omega)) gm_302 vf_X2_housesOnPage ⟨Nat.le_of_ble_eq_true rfl, Nat.le_of_ble_eq_true rfl⟩ ⟨rfl, rfl⟩ ⟨Nat.zero_le _, Nat.zero_le _⟩ (RPE.preV hK (hE.kept hS.2.1).none hP (q0 := 0) (ci := 2) XW_g0 rfl) rfl hl.1 rfl (Nat.le_of_ble_eq_true rfl) dX2_street_1 ?_
  refine lv_istore_n (lv' := [(1, .int (nI (if pl % 3 = 2 ∧ ftF pg pl = pl then (pl + 1) / 3 else 0))), (0, .ref (a 0))]) hx hb dX2_street_4 rfl hl (by decide) rfl (fun ls hl => ?_)
  refine lv_iload_n hx hb dX2_street_5 rfl (lv_at hl 0 rfl) ?_
  refine lv_iconst (v := (nI 2)) hx hb dX2_street_6 (by decide) ?_
  refine nv_icmp_ge (tgt := 13) hx hb dX2_street_7 (by split <;> omega) (by omega) (by decide) (fun c_7 => ?_) (fun c_7 => ?_)
  · skip
    have hA : pl % 3 = 2 ∧ ftF pg pl = pl := Classical.byContradiction (fun q => by rw [if_neg q] at c_7; omega)
    rw [if_pos hA] at c_7 hl
    have q17 := ft_17 hA.2
    refine lv_aload_n hx hb dX2_street_13 rfl (lv_at hl 1 rfl) ?_
    refine lv_iload_n hx hb dX2_street_14 rfl (lv_at hl 0 rfl) ?_
    refine va_put (D := D) (ci := 2) (v := .int (nI ((pl + 1) / 3))) (ty := .int) (C := RX2) (T := TX2) (N := 11) hx hb hg us_X2 tyX2 tyX2_ok nmX2 hown hK.1 hP hD hS 0 XW_g0 rfl 2 (by decide) (hg _ gm_68) (fun _ h9 => h9) rfl (by decide +kernel) rfl rfl (Nat.le_of_ble_eq_true rfl) dX2_street_15 (fun H locs hP hD hS => ?_)
    have hP : va_P D vwCl (XW cI a pl ((pl + 1) / 3) st ik td nd nh bs ktd knd knh kbs pg kd ag pa bo dm dn hh hn kag kpa kbo kdm kdn khh khn wb ps ty) H := P_eq hP XW_set_13
    have hD : va_D A (XW cI a pl ((pl + 1) / 3) st ik td nd nh bs ktd knd knh kbs pg kd ag pa bo dm dn hh hn kag kpa kbo kdm kdn khh khn wb ps ty) := D_eq hD XW_set_13
    refine lv_aload_n hx hb dX2_street_18 rfl (lv_at hl 1 rfl) ?_
    refine va_get (D := D) (ci := 2) (v := .ref (a 5)) (C := RX2) (T := TX2) (N := 11) hx hb hg us_X2 hown hK.1 hP 0 XW_g0 rfl 5 (by decide) (hg _ gm_71) (fun _ h9 => h9) rfl dX2_street_19 ?_
    have hP_1 : va_P D vwCl [(a 5, .inr (0, [.int (nI td), .int bs, .int (nI nd), .int (nI nh), .ref (a 6), .ref (a 7), .ref (a 8), .ref (a 9), .ref (a 10), .ref (a 11), .ref (a 12)])), (a 8, .inr (1, [.ref (a 15)])), (a 15, .inl (cI, 6, .inl bo))] _ := P_s3 hP XW_g5 XW_g8 XW_g15
    have hC_2 : ([5, 8, 15] : List Nat).map (fun q_ => (XW cI a pl ((pl + 1) / 3) st ik td nd nh bs ktd knd knh kbs pg kd ag pa bo dm dn hh hn kag kpa kbo kdm kdn khh khn wb ps ty : va_W)[q_]?) = List.map some ([(a 5, .inr (0, [.int (nI td), .int bs, .int (nI nd), .int (nI nh), .ref (a 6), .ref (a 7), .ref (a 8), .ref (a 9), .ref (a 10), .ref (a 11), .ref (a 12)])), (a 8, .inr (1, [.ref (a 15)])), (a 15, .inl (cI, 6, .inl bo))] : va_W) := M_s3 XW_g5 XW_g8 XW_g15
    have hDc_2 : va_D (fun _ => True) [(a 5, .inr (0, [.int (nI td), .int bs, .int (nI nd), .int (nI nh), .ref (a 6), .ref (a 7), .ref (a 8), .ref (a 9), .ref (a 10), .ref (a 11), .ref (a 12)])), (a 8, .inr (1, [.ref (a 15)])), (a 15, .inl (cI, 6, .inl bo))] := (hD.sub (ws' := [(a 5, .inr (0, [.int (nI td), .int bs, .int (nI nd), .int (nI nh), .ref (a 6), .ref (a 7), .ref (a 8), .ref (a 9), .ref (a 10), .ref (a 11), .ref (a 12)])), (a 8, .inr (1, [.ref (a 15)])), (a 15, .inl (cI, 6, .inl bo))]) [5, 8, 15] (by decide) hC_2).weaken (fun _ _ _ _ => trivial)
    refine wrVv (As := []) (rest := []) hx hb hml hown hg (c_X0_startAnew l D cI cB aS (a 5) (a 6) (a 7) (a 8) (a 9) (a 10) (a 11) (a 12) (a 15) td nd nh bs bo hDc_2) gm_306 vf_X0_startAnew ⟨Nat.le_of_ble_eq_true rfl, Nat.le_of_ble_eq_true rfl⟩ ⟨rfl, rfl⟩ ⟨Nat.zero_le _, Nat.zero_le _⟩ (RP.preV hK hP_1 (q0 := 0) (ci := 0) rfl rfl) rfl hl.1 rfl (Nat.le_of_ble_eq_true rfl) dX2_street_22 hS (inW_sub hD [5, 8, 15] hC_2) (fun u_3 H1 locs hpo_3 hP1 hk1 hS => ?_)
    have hP : va_P D vwCl (XW cI a pl ((pl + 1) / 3) st ik 0 0 0 (nI 0) ktd knd knh kbs pg kd ag pa (fun _ => nI 0) dm dn hh hn kag kpa kbo kdm kdn khh khn wb ps ty) H1 := P_eq (wjoin (wc := [(a 5, .inr (0, [.int (nI td), .int bs, .int (nI nd), .int (nI nh), .ref (a 6), .ref (a 7), .ref (a 8), .ref (a 9), .ref (a 10), .ref (a 11), .ref (a 12)])), (a 8, .inr (1, [.ref (a 15)])), (a 15, .inl (cI, 6, .inl bo))]) (w1 := [(a 5, .inr (0, [.int (nI 0), .int (nI 0), .int (nI 0), .int (nI 0), .ref (a 6), .ref (a 7), .ref (a 8), .ref (a 9), .ref (a 10), .ref (a 11), .ref (a 12)])), (a 8, .inr (1, [.ref (a 15)])), (a 15, .inl (cI, 6, .inl (fun _ => nI 0)))]) hP hD [5, 8, 15] hC_2 rfl hP1 hk1) XW_wsets_14
    have hD : va_D A (XW cI a pl ((pl + 1) / 3) st ik 0 0 0 (nI 0) ktd knd knh kbs pg kd ag pa (fun _ => nI 0) dm dn hh hn kag kpa kbo kdm kdn khh khn wb ps ty) := hD.addr (XW_addr.trans XW_addr.symm)
    clear hP1 hk1
    generalize H1 = H at hP hS ⊢
    refine lv_iconst (v := (nI 0)) hx hb dX2_street_25 (by decide) ?_
    refine lv_istore_n (lv' := [(2, .int (nI 0)), (1, .int (nI ((pl + 1) / 3))), (0, .ref (a 0))]) hx hb dX2_street_26 rfl hl (by decide) rfl (fun ls hl => ?_)
    -- loop at 27
    refine loopW (nL := 4) (S := Unit) (B := ((pl + 1) / 3)) (I := fun i u => True) (lv := fun i u => [(0, .ref (a 0)), (2, .int (nI i))]) (wf := fun i u => XW cI a pl ((pl + 1) / 3) st ik 0 0 0 (nI 0) ktd knd knh kbs pg (cpF (stK pg) kd i) (cpF (stA pg) ag i) pa (fun _ => nI 0) dm dn hh hn kag kpa kbo kdm kdn khh khn wb ps ty) 0 () (Nat.zero_le _) (trivial) (lv_sub hl [2, 0] rfl) (by show va_P D vwCl (XW cI a pl ((pl + 1) / 3) st ik 0 0 0 (nI 0) ktd knd knh kbs pg (cpF (stK pg) kd 0) (cpF (stA pg) ag 0) pa (fun _ => nI 0) dm dn hh hn kag kpa kbo kdm kdn khh khn wb ps ty) H; rw [cpF_0, cpF_0]; exact hP) (hD.addr (XW_addr.trans XW_addr.symm)) hS (fun i u ls H locs hj hI hl hP hD hS ih => ?_)
    have hP : va_P D vwCl (XW cI a pl ((pl + 1) / 3) st ik 0 0 0 (nI 0) ktd knd knh kbs pg (cpF (stK pg) kd i) (cpF (stA pg) ag i) pa (fun _ => nI 0) dm dn hh hn kag kpa kbo kdm kdn khh khn wb ps ty) H := hP
    have hD : va_D A (XW cI a pl ((pl + 1) / 3) st ik 0 0 0 (nI 0) ktd knd knh kbs pg (cpF (stK pg) kd i) (cpF (stA pg) ag i) pa (fun _ => nI 0) dm dn hh hn kag kpa kbo kdm kdn khh khn wb ps ty) := hD
    have hl : lv_has ls 4 [(0, .ref (a 0)), (2, .int (nI i))] := hl
    have ih_27 := ih
    refine lv_iload_n hx hb dX2_street_27 rfl (lv_at hl 1 rfl) ?_
    refine lv_aload_n hx hb dX2_street_28 rfl (lv_at hl 0 rfl) ?_
    refine va_get (D := D) (ci := 2) (v := .int (nI ((pl + 1) / 3))) (C := RX2) (T := TX2) (N := 11) hx hb hg us_X2 hown hK.1 hP 0 XW_g0 rfl 2 (by decide) (hg _ gm_68) (fun _ h9 => h9) rfl dX2_street_29 ?_
    refine nv_icmp_ge (tgt := 88) hx hb dX2_street_32 (by omega) (by omega) (by decide) (fun c_32 => ?_) (fun c_32 => ?_)
    · skip
      refine lv_aload_n hx hb dX2_street_88 rfl (lv_at hl 0 rfl) ?_
      refine lv_iconst (v := (nI 0)) hx hb dX2_street_89 (by decide) ?_
      refine va_put (D := D) (ci := 2) (v := .int (nI 0)) (ty := .boolean) (C := RX2) (T := TX2) (N := 11) hx hb hg us_X2 tyX2 tyX2_ok nmX2 hown hK.1 hP hD hS 0 XW_g0 rfl 7 (by decide) (hg _ gm_73) (fun _ h9 => h9) rfl (by decide +kernel) rfl rfl (Nat.le_of_ble_eq_true rfl) dX2_street_90 (fun H locs hP hD hS => ?_)
      have hP : va_P D vwCl (XW cI a pl ((pl + 1) / 3) st (nI 0) 0 0 0 (nI 0) ktd knd knh kbs pg (cpF (stK pg) kd i) (cpF (stA pg) ag i) pa (fun _ => nI 0) dm dn hh hn kag kpa kbo kdm kdn khh khn wb ps ty) H := P_eq hP XW_set_15
      have hD : va_D A (XW cI a pl ((pl + 1) / 3) st (nI 0) 0 0 0 (nI 0) ktd knd knh kbs pg (cpF (stK pg) kd i) (cpF (stA pg) ag i) pa (fun _ => nI 0) dm dn hh hn kag kpa kbo kdm kdn khh khn wb ps ty) := D_eq hD XW_set_15
      refine lv_aload_n hx hb dX2_street_93 rfl (lv_at hl 0 rfl) ?_
      refine lv_iconst (v := (nI 0)) hx hb dX2_street_94 (by decide) ?_
      refine va_put (D := D) (ci := 2) (v := .int (nI 0)) (ty := .int) (C := RX2) (T := TX2) (N := 11) hx hb hg us_X2 tyX2 tyX2_ok nmX2 hown hK.1 hP hD hS 0 XW_g0 rfl 1 (by decide) (hg _ gm_67) (fun _ h9 => h9) rfl (by decide +kernel) rfl rfl (Nat.le_of_ble_eq_true rfl) dX2_street_95 (fun H locs hP hD hS => ?_)
      have hP : va_P D vwCl (XW cI a 0 ((pl + 1) / 3) st (nI 0) 0 0 0 (nI 0) ktd knd knh kbs pg (cpF (stK pg) kd i) (cpF (stA pg) ag i) pa (fun _ => nI 0) dm dn hh hn kag kpa kbo kdm kdn khh khn wb ps ty) H := P_eq hP XW_set_3
      have hD : va_D A (XW cI a 0 ((pl + 1) / 3) st (nI 0) 0 0 0 (nI 0) ktd knd knh kbs pg (cpF (stK pg) kd i) (cpF (stA pg) ag i) pa (fun _ => nI 0) dm dn hh hn kag kpa kbo kdm kdn khh khn wb ps ty) := D_eq hD XW_set_3
      refine lv_aload_n hx hb dX2_street_98 rfl (lv_at hl 0 rfl) ?_
      refine lv_dup hx hb dX2_street_99 rfl ?_
      refine va_get (D := D) (ci := 2) (v := .int (nI st)) (C := RX2) (T := TX2) (N := 11) hx hb hg us_X2 hown hK.1 hP 0 XW_g0 rfl 3 (by decide) (hg _ gm_69) (fun _ h9 => h9) rfl dX2_street_100 ?_
      refine lv_iconst (v := (nI 1)) hx hb dX2_street_103 (by decide) ?_
      refine nv_iadd hx hb dX2_street_104 ?_
      refine va_put (D := D) (ci := 2) (v := .int (nI (st + 1))) (ty := .int) (C := RX2) (T := TX2) (N := 11) hx hb hg us_X2 tyX2 tyX2_ok nmX2 hown hK.1 hP hD hS 0 XW_g0 rfl 3 (by decide) (hg _ gm_69) (fun _ h9 => h9) rfl (by decide +kernel) rfl rfl (Nat.le_of_ble_eq_true rfl) dX2_street_105 (fun H locs hP hD hS => ?_)
      have hP : va_P D vwCl (XW cI a 0 ((pl + 1) / 3) (st + 1) (nI 0) 0 0 0 (nI 0) ktd knd knh kbs pg (cpF (stK pg) kd i) (cpF (stA pg) ag i) pa (fun _ => nI 0) dm dn hh hn kag kpa kbo kdm kdn khh khn wb ps ty) H := P_eq hP XW_set_16
      have hD : va_D A (XW cI a 0 ((pl + 1) / 3) (st + 1) (nI 0) 0 0 0 (nI 0) ktd knd knh kbs pg (cpF (stK pg) kd i) (cpF (stA pg) ag i) pa (fun _ => nI 0) dm dn hh hn kag kpa kbo kdm kdn khh khn wb ps ty) := D_eq hD XW_set_16
      refine lv_aload_n hx hb dX2_street_108 rfl (lv_at hl 0 rfl) ?_
      refine va_get (D := D) (ci := 2) (v := .int (nI ((pl + 1) / 3))) (C := RX2) (T := TX2) (N := 11) hx hb hg us_X2 hown hK.1 hP 0 XW_g0 rfl 2 (by decide) (hg _ gm_68) (fun _ h9 => h9) rfl dX2_street_109 ?_
      subst hAe
      exact wr_i (w1 := fun (u : Bool) => cond u (XW cI a 0 ((pl + 1) / 3) (st + 1) (nI 0) 0 0 0 (nI 0) ktd knd knh kbs pg (cpF (stK pg) kd ((pl + 1) / 3)) (cpF (stA pg) ag ((pl + 1) / 3)) pa (fun _ => nI 0) dm dn hh hn kag kpa kbo kdm kdn khh khn wb ps ty) (XW cI a pl n st ik td nd nh bs ktd knd knh kbs pg kd ag pa bo dm dn hh hn kag kpa kbo kdm kdn khh khn wb ps ty)) hx hb hr hlocks hS true (by rw [show i = (pl + 1) / 3 by omega] at hP; exact hP) dX2_street_112 (Or.inl ⟨⟨by omega, hA⟩, rfl, rfl⟩)
    · skip
      refine lv_iload_n hx hb dX2_street_35 rfl (lv_at hl 1 rfl) ?_
      refine lv_iconst (v := (nI 3)) hx hb dX2_street_36 (by decide) ?_
      refine nv_imul hx hb dX2_street_37 ?_
      refine lv_istore_n (lv' := [(3, .int (nI (i * 3))), (0, .ref (a 0)), (2, .int (nI i))]) hx hb dX2_street_38 rfl hl (by decide) rfl (fun ls hl => ?_)
      refine lv_aload_n hx hb dX2_street_39 rfl (lv_at hl 1 rfl) ?_
      refine va_get (D := D) (ci := 2) (v := .ref (a 3)) (C := RX2) (T := TX2) (N := 11) hx hb hg us_X2 hown hK.1 hP 0 XW_g0 rfl 4 (by decide) (hg _ gm_70) (fun _ h9 => h9) rfl dX2_street_40 ?_
      refine lv_iload_n hx hb dX2_street_43 rfl (lv_at hl 2 rfl) ?_
      refine lv_aload_n hx hb dX2_street_44 rfl (lv_at hl 1 rfl) ?_
      refine va_get (D := D) (ci := 2) (v := .ref (a 1)) (C := RX2) (T := TX2) (N := 11) hx hb hg us_X2 hown hK.1 hP 0 XW_g0 rfl 0 (by decide) (hg _ gm_66) (fun _ h9 => h9) rfl dX2_street_45 ?_
      refine lv_iload_n hx hb dX2_street_48 rfl (lv_at hl 0 rfl) ?_
      have hP_4 : va_P D vwCl [(a 1, .inr (1, [.ref (a 2)])), (a 2, .inl (cI, 19, .inl pg))] _ := P_s2 hP XW_g1 XW_g2
      refine rdV (As := [.int (nI (i * 3))]) (rest := [.int (nI i), .ref (a 3)]) hx hb hml hown hg (c_X1_at l D cI cB aS (a 1) (a 2) 19 pg (i * 3) (by first | assumption | omega) (by first | assumption | omega)) gm_95 vf_X1_at ⟨Nat.le_of_ble_eq_true rfl, Nat.le_of_ble_eq_true rfl⟩ ⟨rfl, rfl⟩ ⟨Nat.zero_le _, Nat.zero_le _⟩ (RP.preV hK hP_4 (q0 := 0) (ci := 1) rfl rfl) rfl hl.1 rfl (Nat.le_of_ble_eq_true rfl) dX2_street_49 ?_
      rw [show ((pg (i * 3)) : Int32) = (nI ((pg (3 * i)).toNatClampNeg)) from by rw [Nat.mul_comm]; exact (qpg (3 * i) (by omega)).1]
      refine rdS (As := [.int (nI ((pg (3 * i)).toNatClampNeg))]) (rest := [.int (nI i), .ref (a 3)]) hx hb hml hown hg (c_X2_kindOfLetter l D cI cB aS aV ((pg (3 * i)).toNatClampNeg) (qpg (3 * i) (by omega)).2.2) gm_251 sf_X2_kindOfLetter ⟨Nat.le_of_ble_eq_true rfl, Nat.le_of_ble_eq_true rfl⟩ ⟨rfl, rfl⟩ ⟨Nat.zero_le _, Nat.zero_le _⟩ (RPE.preS hK (hE.kept hS.2.1).none (fun k q h => by simp at h)) rfl hl.1 rfl (Nat.le_of_ble_eq_true rfl) dX2_street_52 ?_
      have hP_5 : va_P D vwCl [(a 3, .inr (1, [.ref (a 4)])), (a 4, .inl (cI, 6, .inl (cpF (stK pg) kd i)))] _ := P_s2 hP XW_g3 XW_g4
      have hC_6 : ([3, 4] : List Nat).map (fun q_ => (XW cI a pl ((pl + 1) / 3) st ik 0 0 0 (nI 0) ktd knd knh kbs pg (cpF (stK pg) kd i) (cpF (stA pg) ag i) pa (fun _ => nI 0) dm dn hh hn kag kpa kbo kdm kdn khh khn wb ps ty : va_W)[q_]?) = List.map some ([(a 3, .inr (1, [.ref (a 4)])), (a 4, .inl (cI, 6, .inl (cpF (stK pg) kd i)))] : va_W) := M_s2 XW_g3 XW_g4
      have hDc_6 : va_D (fun _ => True) [(a 3, .inr (1, [.ref (a 4)])), (a 4, .inl (cI, 6, .inl (cpF (stK pg) kd i)))] := (hD.sub (ws' := [(a 3, .inr (1, [.ref (a 4)])), (a 4, .inl (cI, 6, .inl (cpF (stK pg) kd i)))]) [3, 4] (by decide) hC_6).weaken (fun _ _ _ _ => trivial)
      refine wrVv (As := [.int (nI i), .int (kindF ((pg (3 * i)).toNatClampNeg))]) (rest := []) hx hb hml hown hg (c_X1_put l D cI cB aS (a 3) (a 4) 6 (cpF (stK pg) kd i) i (kindF ((pg (3 * i)).toNatClampNeg)) hDc_6 (by first | assumption | omega) (by first | assumption | omega)) gm_137 vf_X1_put ⟨Nat.le_of_ble_eq_true rfl, Nat.le_of_ble_eq_true rfl⟩ ⟨rfl, rfl⟩ ⟨Nat.zero_le _, Nat.zero_le _⟩ (RP.preV hK hP_5 (q0 := 0) (ci := 1) rfl rfl) rfl hl.1 rfl (Nat.le_of_ble_eq_true rfl) dX2_street_55 hS (inW_sub hD [3, 4] hC_6) (fun u_7 H1 locs hpo_7 hP1 hk1 hS => ?_)
      have hP : va_P D vwCl (XW cI a pl ((pl + 1) / 3) st ik 0 0 0 (nI 0) ktd knd knh kbs pg (upd (cpF (stK pg) kd i) i (kindF ((pg (3 * i)).toNatClampNeg))) (cpF (stA pg) ag i) pa (fun _ => nI 0) dm dn hh hn kag kpa kbo kdm kdn khh khn wb ps ty) H1 := P_eq (wjoin (wc := [(a 3, .inr (1, [.ref (a 4)])), (a 4, .inl (cI, 6, .inl (cpF (stK pg) kd i)))]) (w1 := [(a 3, .inr (1, [.ref (a 4)])), (a 4, .inl (cI, 6, .inl (upd (cpF (stK pg) kd i) i (kindF ((pg (3 * i)).toNatClampNeg)))))]) hP hD [3, 4] hC_6 rfl hP1 hk1) XW_wsets_17
      have hD : va_D A (XW cI a pl ((pl + 1) / 3) st ik 0 0 0 (nI 0) ktd knd knh kbs pg (upd (cpF (stK pg) kd i) i (kindF ((pg (3 * i)).toNatClampNeg))) (cpF (stA pg) ag i) pa (fun _ => nI 0) dm dn hh hn kag kpa kbo kdm kdn khh khn wb ps ty) := hD.addr (XW_addr.trans XW_addr.symm)
      clear hP1 hk1
      generalize H1 = H at hP hS ⊢
      have e_8 : upd (cpF (stK pg) kd i) i (kindF ((pg (3 * i)).toNatClampNeg)) = cpF (stK pg) kd (i + 1) := (cpF_s rfl)
      rw [e_8] at hP hD
      have hP : va_P D vwCl (XW cI a pl ((pl + 1) / 3) st ik 0 0 0 (nI 0) ktd knd knh kbs pg (cpF (stK pg) kd (i + 1)) (cpF (stA pg) ag i) pa (fun _ => nI 0) dm dn hh hn kag kpa kbo kdm kdn khh khn wb ps ty) H := hP
      have hD : va_D A (XW cI a pl ((pl + 1) / 3) st ik 0 0 0 (nI 0) ktd knd knh kbs pg (cpF (stK pg) kd (i + 1)) (cpF (stA pg) ag i) pa (fun _ => nI 0) dm dn hh hn kag kpa kbo kdm kdn khh khn wb ps ty) := hD
      refine lv_aload_n hx hb dX2_street_58 rfl (lv_at hl 1 rfl) ?_
      refine va_get (D := D) (ci := 2) (v := .ref (a 5)) (C := RX2) (T := TX2) (N := 11) hx hb hg us_X2 hown hK.1 hP 0 XW_g0 rfl 5 (by decide) (hg _ gm_71) (fun _ h9 => h9) rfl dX2_street_59 ?_
      refine va_getN (D := D) (ci := 0) (v := .ref (a 6)) (C := RX0) (T := TX0) (N := 11) hx hb hg us_X0 hown hK.1 hP 5 XW_g5 rfl 4 (by decide) (nl_76 hK) (fun _ h9 => h9) rfl dX2_street_62 ?_
      refine lv_iload_n hx hb dX2_street_65 rfl (lv_at hl 2 rfl) ?_
      refine lv_aload_n hx hb dX2_street_66 rfl (lv_at hl 1 rfl) ?_
      refine va_get (D := D) (ci := 2) (v := .ref (a 1)) (C := RX2) (T := TX2) (N := 11) hx hb hg us_X2 hown hK.1 hP 0 XW_g0 rfl 0 (by decide) (hg _ gm_66) (fun _ h9 => h9) rfl dX2_street_67 ?_
      refine lv_iload_n hx hb dX2_street_70 rfl (lv_at hl 0 rfl) ?_
      refine lv_iconst (v := (nI 1)) hx hb dX2_street_71 (by decide) ?_
      refine nv_iadd hx hb dX2_street_72 ?_
      have hP_9 : va_P D vwCl [(a 1, .inr (1, [.ref (a 2)])), (a 2, .inl (cI, 19, .inl pg))] _ := P_s2 hP XW_g1 XW_g2
      refine rdV (As := [.int (nI (i * 3 + 1))]) (rest := [.int (nI i), .ref (a 6)]) hx hb hml hown hg (c_X1_at l D cI cB aS (a 1) (a 2) 19 pg (i * 3 + 1) (by first | assumption | omega) (by first | assumption | omega)) gm_95 vf_X1_at ⟨Nat.le_of_ble_eq_true rfl, Nat.le_of_ble_eq_true rfl⟩ ⟨rfl, rfl⟩ ⟨Nat.zero_le _, Nat.zero_le _⟩ (RP.preV hK hP_9 (q0 := 0) (ci := 1) rfl rfl) rfl hl.1 rfl (Nat.le_of_ble_eq_true rfl) dX2_street_73 ?_
      refine lv_bipush (v := (nI 48)) hx hb dX2_street_76 (by decide) ?_
      refine lv_isub hx hb dX2_street_78 ?_
      have hP_10 : va_P D vwCl [(a 6, .inr (1, [.ref (a 13)])), (a 13, .inl (cI, 6, .inl (cpF (stA pg) ag i)))] _ := P_s2 hP XW_g6 XW_g13
      have hC_11 : ([6, 13] : List Nat).map (fun q_ => (XW cI a pl ((pl + 1) / 3) st ik 0 0 0 (nI 0) ktd knd knh kbs pg (cpF (stK pg) kd (i + 1)) (cpF (stA pg) ag i) pa (fun _ => nI 0) dm dn hh hn kag kpa kbo kdm kdn khh khn wb ps ty : va_W)[q_]?) = List.map some ([(a 6, .inr (1, [.ref (a 13)])), (a 13, .inl (cI, 6, .inl (cpF (stA pg) ag i)))] : va_W) := M_s2 XW_g6 XW_g13
      have hDc_11 : va_D (fun _ => True) [(a 6, .inr (1, [.ref (a 13)])), (a 13, .inl (cI, 6, .inl (cpF (stA pg) ag i)))] := (hD.sub (ws' := [(a 6, .inr (1, [.ref (a 13)])), (a 13, .inl (cI, 6, .inl (cpF (stA pg) ag i)))]) [6, 13] (by decide) hC_11).weaken (fun _ _ _ _ => trivial)
      refine wrVv (As := [.int (nI i), .int ((pg (i * 3 + 1)) - (nI 48))]) (rest := []) hx hb hml hown hg (c_X1_put l D cI cB aS (a 6) (a 13) 6 (cpF (stA pg) ag i) i ((pg (i * 3 + 1)) - (nI 48)) hDc_11 (by first | assumption | omega) (by first | assumption | omega)) gm_137 vf_X1_put ⟨Nat.le_of_ble_eq_true rfl, Nat.le_of_ble_eq_true rfl⟩ ⟨rfl, rfl⟩ ⟨Nat.zero_le _, Nat.zero_le _⟩ (RP.preV hK hP_10 (q0 := 0) (ci := 1) rfl rfl) rfl hl.1 rfl (Nat.le_of_ble_eq_true rfl) dX2_street_79 hS (inW_sub hD [6, 13] hC_11) (fun u_12 H1 locs hpo_12 hP1 hk1 hS => ?_)
      have hP : va_P D vwCl (XW cI a pl ((pl + 1) / 3) st ik 0 0 0 (nI 0) ktd knd knh kbs pg (cpF (stK pg) kd (i + 1)) (upd (cpF (stA pg) ag i) i ((pg (i * 3 + 1)) - (nI 48))) pa (fun _ => nI 0) dm dn hh hn kag kpa kbo kdm kdn khh khn wb ps ty) H1 := P_eq (wjoin (wc := [(a 6, .inr (1, [.ref (a 13)])), (a 13, .inl (cI, 6, .inl (cpF (stA pg) ag i)))]) (w1 := [(a 6, .inr (1, [.ref (a 13)])), (a 13, .inl (cI, 6, .inl (upd (cpF (stA pg) ag i) i ((pg (i * 3 + 1)) - (nI 48)))))]) hP hD [6, 13] hC_11 rfl hP1 hk1) XW_wsets_18
      have hD : va_D A (XW cI a pl ((pl + 1) / 3) st ik 0 0 0 (nI 0) ktd knd knh kbs pg (cpF (stK pg) kd (i + 1)) (upd (cpF (stA pg) ag i) i ((pg (i * 3 + 1)) - (nI 48))) pa (fun _ => nI 0) dm dn hh hn kag kpa kbo kdm kdn khh khn wb ps ty) := hD.addr (XW_addr.trans XW_addr.symm)
      clear hP1 hk1
      generalize H1 = H at hP hS ⊢
      have e_13 : upd (cpF (stA pg) ag i) i ((pg (i * 3 + 1)) - (nI 48)) = cpF (stA pg) ag (i + 1) := (cpF_s (by rw [Nat.mul_comm]; rfl))
      rw [e_13] at hP hD
      have hP : va_P D vwCl (XW cI a pl ((pl + 1) / 3) st ik 0 0 0 (nI 0) ktd knd knh kbs pg (cpF (stK pg) kd (i + 1)) (cpF (stA pg) ag (i + 1)) pa (fun _ => nI 0) dm dn hh hn kag kpa kbo kdm kdn khh khn wb ps ty) H := hP
      have hD : va_D A (XW cI a pl ((pl + 1) / 3) st ik 0 0 0 (nI 0) ktd knd knh kbs pg (cpF (stK pg) kd (i + 1)) (cpF (stA pg) ag (i + 1)) pa (fun _ => nI 0) dm dn hh hn kag kpa kbo kdm kdn khh khn wb ps ty) := hD
      refine lv_iinc (v := (nI (i + 1))) (lv' := [(2, .int (nI (i + 1))), (3, .int (nI (i * 3))), (0, .ref (a 0))]) hx hb dX2_street_82 hl (k := 2) rfl (nI_i1 _) (by decide) rfl (fun ls hl => ?_)
      refine lv_goto (tgt := 27) hx hb dX2_street_85 (by decide) ?_
      exact ih_27 () _ _ _ (by omega) (trivial) (lv_sub hl [2, 0] rfl) hP (hD.addr (XW_addr.trans XW_addr.symm)) hS
  · skip
    refine lv_bipush (v := (-103)) hx hb dX2_street_10 (by decide) ?_
    subst hAe
    exact wr_i (w1 := fun (u : Bool) => cond u (XW cI a 0 ((pl + 1) / 3) (st + 1) (nI 0) 0 0 0 (nI 0) ktd knd knh kbs pg (cpF (stK pg) kd ((pl + 1) / 3)) (cpF (stA pg) ag ((pl + 1) / 3)) pa (fun _ => nI 0) dm dn hh hn kag kpa kbo kdm kdn khh khn wb ps ty) (XW cI a pl n st ik td nd nh bs ktd knd knh kbs pg kd ag pa bo dm dn hh hn kag kpa kbo kdm kdn khh khn wb ps ty)) hx hb hr hlocks hS false hP dX2_street_12 (Or.inr ⟨fun q => by rw [if_pos q.2] at c_7; omega, rfl, rfl⟩)
