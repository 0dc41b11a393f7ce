abbrev rm_X1_at : Room := { frames := 0, cells := 0, slots := 0, locals := 0 }
set_option maxRecDepth 100000 in
set_option maxHeartbeats 4000000 in
theorem c_X1_at (l : Launch) (D : va_G) (cI cB : ClassId) (aS : Nat) (h0 h1 nn : Nat) (f : Nat → Int32) (i : Nat) (qn : nn < 2147483648) (qi : i < nn) : Met l yX1_at (mw yX1_at cX1_at 2 (some .int)) rm_X1_at (RP D cI cB aS ([(h0, .inr (1, [.ref h1])), (h1, .inl (cI, nn, .inl f))]) [.ref h0, .int (nI i)]) (vp_Si (fun r => r = (f i))) 0 0 (fun _ => False) := by
  refine met_of (by decide) (Nat.le_of_ble_eq_true rfl) ?_
  intro p e s m below meth c ls hx hb hr hml hown hg hlocks hin hK hP hl
  have hown : s.vm.findClass RX1 = some m.cls := hown
  have hl : lv_has ls 2 [(0, .ref h0), (1, .int (nI i))] := hl
  refine lv_iload_n hx hb dX1_at_0 rfl (lv_at hl 1 rfl) ?_
  refine nv_if_lt (tgt := 22) hx hb dX1_at_1 (by omega) (by decide) ?_
  refine lv_iload_n hx hb dX1_at_4 rfl (lv_at hl 1 rfl) ?_
  refine lv_aload_n hx hb dX1_at_5 rfl (lv_at hl 0 rfl) ?_
  refine va_get (D := D) (ci := 1) (v := .ref h1) (C := RX1) (T := TX1) (N := 1) hx hb hg us_X1 hown hK.1 hP 0 rfl rfl 0 (by decide) (hg _ gm_24) (fun _ h9 => h9) rfl dX1_at_6 ?_
  refine va_alen hx hb hK.1 hP 1 0 (v := nI nn) rfl rfl rfl dX1_at_9 ?_
  refine nv_icmp_ge (tgt := 22) hx hb dX1_at_10 (by omega) (by omega) (by decide) (fun c_10 => ?_) (fun c_10 => ?_)
  · exact absurd c_10 (by omega)
  · skip
    refine lv_aload_n hx hb dX1_at_13 rfl (lv_at hl 0 rfl) ?_
    refine va_get (D := D) (ci := 1) (v := .ref h1) (C := RX1) (T := TX1) (N := 1) hx hb hg us_X1 hown hK.1 hP 0 rfl rfl 0 (by decide) (hg _ gm_24) (fun _ h9 => h9) rfl dX1_at_14 ?_
    refine lv_iload_n hx hb dX1_at_17 rfl (lv_at hl 1 rfl) ?_
    refine nv_iald hx hb hK.1 hP 1 0 rfl rfl (by omega) (by omega) dX1_at_18 ?_
    refine lv_goto (tgt := 23) hx hb dX1_at_19 (by decide) ?_
    exact rr_i hx hb hr hlocks dX1_at_23 rfl
abbrev rm_X1_put : Room := { frames := 0, cells := 0, slots := 0, locals := 0 }
set_option maxRecDepth 100000 in
set_option maxHeartbeats 4000000 in
theorem c_X1_put (l : Launch) (D : va_G) (cI cB : ClassId) (aS : Nat) (h0 h1 nn : Nat) (f : Nat → Int32) (i : Nat) (x : Int32) (hD0 : va_D (fun _ => True) ([(h0, .inr (1, [.ref h1])), (h1, .inl (cI, nn, .inl f))])) (qn : nn < 2147483648) (qi : i < nn) : Met l yX1_put (mw yX1_put cX1_put 3 none) rm_X1_put (RP D cI cB aS ([(h0, .inr (1, [.ref h1])), (h1, .inl (cI, nn, .inl f))]) [.ref h0, .int (nI i), .int x]) (wq mkV ([(h0, .inr (1, [.ref h1])), (h1, .inl (cI, nn, .inl f))]) (fun (_ : Unit) => [(h0, .inr (1, [.ref h1])), (h1, .inl (cI, nn, .inl (upd f i x)))]) D (fun (_ : Unit) (_ : Unit) => True)) 0 0 (inW ([(h0, .inr (1, [.ref h1])), (h1, .inl (cI, nn, .inl f))])) := by
  refine met_of (by decide) (Nat.le_of_ble_eq_true rfl) ?_
  intro p e s m below meth c ls hx hb hr hml hown hg hlocks hin hK hP hl
  have hown : s.vm.findClass RX1 = some m.cls := hown
  have hl : lv_has ls 3 [(0, .ref h0), (1, .int (nI i)), (2, .int x)] := hl
  have hD := hD0.here
  have hS0 : va_S (inW ([(h0, .inr (1, [.ref h1])), (h1, .inl (cI, nn, .inl f))])) s.heap s.heap [] := va_S.rf
  obtain ⟨H, hH⟩ : ∃ H, H = s.heap := ⟨_, rfl⟩
  have hS : va_S (inW ([(h0, .inr (1, [.ref h1])), (h1, .inl (cI, nn, .inl f))])) s.heap H [] := by rw [hH]; exact hS0
  clear hS0
  rw [← hH] at hP ⊢
  generalize hAe : inW ([(h0, .inr (1, [.ref h1])), (h1, .inl (cI, nn, .inl f))]) = A at hD hS ⊢
  refine lv_iload_n hx hb dX1_put_0 rfl (lv_at hl 1 rfl) ?_
  refine nv_if_lt (tgt := 20) hx hb dX1_put_1 (by omega) (by decide) ?_
  refine lv_iload_n hx hb dX1_put_4 rfl (lv_at hl 1 rfl) ?_
  refine lv_aload_n hx hb dX1_put_5 rfl (lv_at hl 0 rfl) ?_
  refine va_get (D := D) (ci := 1) (v := .ref h1) (C := RX1) (T := TX1) (N := 1) hx hb hg us_X1 hown hK.1 hP 0 rfl rfl 0 (by decide) (hg _ gm_24) (fun _ h9 => h9) rfl dX1_put_6 ?_
  refine va_alen hx hb hK.1 hP 1 0 (v := nI nn) rfl rfl rfl dX1_put_9 ?_
  refine nv_icmp_ge (tgt := 20) hx hb dX1_put_10 (by omega) (by omega) (by decide) (fun c_10 => ?_) (fun c_10 => ?_)
  · exact absurd c_10 (by omega)
  · skip
    refine lv_aload_n hx hb dX1_put_13 rfl (lv_at hl 0 rfl) ?_
    refine va_get (D := D) (ci := 1) (v := .ref h1) (C := RX1) (T := TX1) (N := 1) hx hb hg us_X1 hown hK.1 hP 0 rfl rfl 0 (by decide) (hg _ gm_24) (fun _ h9 => h9) rfl dX1_put_14 ?_
    refine lv_iload_n hx hb dX1_put_17 rfl (lv_at hl 1 rfl) ?_
    refine lv_iload_n hx hb dX1_put_18 rfl (lv_at hl 2 rfl) ?_
    refine nv_iast hx hb hK.1 hP hD hS 1 0 rfl rfl (by omega) (by omega) dX1_put_19 (fun H locs hP hD hS => ?_)
    have hP : va_P D vwCl ([(h0, .inr (1, [.ref h1])), (h1, .inl (cI, nn, .inl (upd f i x)))]) H := hP
    have hD : va_D A ([(h0, .inr (1, [.ref h1])), (h1, .inl (cI, nn, .inl (upd f i x)))]) := hD
    subst hAe
    exact wr_v (w1 := fun (_ : Unit) => [(h0, .inr (1, [.ref h1])), (h1, .inl (cI, nn, .inl (upd f i x)))]) hx hb hr hlocks hS () hP dX1_put_20 trivial
abbrev rm_X1_add : Room := { frames := 1, cells := 0, slots := 0, locals := 22 }
theorem vf_X1_at : vfacts RX1 yX1_at cX1_at 2 (some .int) 1 := ⟨⟨rfl, by decide +kernel, by decide +kernel, by decide +kernel⟩, gm_96, gm_97, gm_3, gm_98⟩
theorem vf_X1_put : vfacts RX1 yX1_put cX1_put 3 none 2 := ⟨⟨rfl, by decide +kernel, by decide +kernel, by decide +kernel⟩, gm_138, gm_139, gm_3, gm_140⟩
set_option maxRecDepth 100000 in
set_option maxHeartbeats 4000000 in
theorem c_X1_add (l : Launch) (D : va_G) (cI cB : ClassId) (aS : Nat) (h0 h1 nn : Nat) (f : Nat → Int32) (i : Nat) (x : Int32) (hD0 : va_D (fun _ => True) ([(h0, .inr (1, [.ref h1])), (h1, .inl (cI, nn, .inl f))])) (qn : nn < 2147483648) (qi : i < nn) : Met l yX1_add (mw yX1_add cX1_add 3 none) rm_X1_add (RP D cI cB aS ([(h0, .inr (1, [.ref h1])), (h1, .inl (cI, nn, .inl f))]) [.ref h0, .int (nI i), .int x]) (wq mkV ([(h0, .inr (1, [.ref h1])), (h1, .inl (cI, nn, .inl f))]) (fun (_ : Unit) => [(h0, .inr (1, [.ref h1])), (h1, .inl (cI, nn, .inl (upd f i (f i + x))))]) D (fun (_ : Unit) (_ : Unit) => True)) 0 0 (inW ([(h0, .inr (1, [.ref h1])), (h1, .inl (cI, nn, .inl f))])) := by
  refine met_of (by decide) (Nat.le_of_ble_eq_true rfl) ?_
  intro p e s m below meth c ls hx hb hr hml hown hg hlocks hin hK hP hl
  have hown : s.vm.findClass RX1 = some m.cls := hown
  have hl : lv_has ls 3 [(0, .ref h0), (1, .int (nI i)), (2, .int x)] := hl
  have hD := hD0.here
  have hS0 : va_S (inW ([(h0, .inr (1, [.ref h1])), (h1, .inl (cI, nn, .inl f))])) s.heap s.heap [] := va_S.rf
  obtain ⟨H, hH⟩ : ∃ H, H = s.heap := ⟨_, rfl⟩
  have hS : va_S (inW ([(h0, .inr (1, [.ref h1])), (h1, .inl (cI, nn, .inl f))])) s.heap H [] := by rw [hH]; exact hS0
  clear hS0
  rw [← hH] at hP ⊢
  generalize hAe : inW ([(h0, .inr (1, [.ref h1])), (h1, .inl (cI, nn, .inl f))]) = A at hD hS ⊢
  refine lv_aload_n hx hb dX1_add_0 rfl (lv_at hl 0 rfl) ?_
  refine lv_iload_n hx hb dX1_add_1 rfl (lv_at hl 1 rfl) ?_
  refine lv_aload_n hx hb dX1_add_2 rfl (lv_at hl 0 rfl) ?_
  refine lv_iload_n hx hb dX1_add_3 rfl (lv_at hl 1 rfl) ?_
  refine rdV (As := [.int (nI i)]) (rest := [.int (nI i), .ref h0]) hx hb hml hown hg (c_X1_at l D cI cB aS h0 h1 nn f i (by first | assumption | omega) (by first | assumption | omega)) gm_148 vf_X1_at ⟨Nat.le_of_ble_eq_true rfl, Nat.le_of_ble_eq_true rfl⟩ ⟨rfl, rfl⟩ ⟨Nat.zero_le _, Nat.zero_le _⟩ (RP.preV hK hP (q0 := 0) (ci := 1) rfl rfl) rfl hl.1 rfl (Nat.le_of_ble_eq_true rfl) dX1_add_4 ?_
  refine lv_iload_n hx hb dX1_add_7 rfl (lv_at hl 2 rfl) ?_
  refine lv_iadd hx hb dX1_add_8 ?_
  refine wrVv (As := [.int (nI i), .int ((f i) + x)]) (rest := []) hx hb hml hown hg (c_X1_put l D cI cB aS h0 h1 nn f i ((f i) + x) (hD.weaken (fun _ _ _ _ => trivial)) (by first | assumption | omega) (by first | assumption | omega)) gm_149 vf_X1_put ⟨Nat.le_of_ble_eq_true rfl, Nat.le_of_ble_eq_true rfl⟩ ⟨rfl, rfl⟩ ⟨Nat.zero_le _, Nat.zero_le _⟩ (RP.preV hK hP (q0 := 0) (ci := 1) rfl rfl) rfl hl.1 rfl (Nat.le_of_ble_eq_true rfl) dX1_add_9 hS (inW_all hD) (fun u_1 H1 locs hpo_1 hP1 hk1 hS => ?_)
  have hP : va_P D vwCl ([(h0, .inr (1, [.ref h1])), (h1, .inl (cI, nn, .inl (upd f i ((f i) + x))))]) H1 := hP1
  have hD : va_D A ([(h0, .inr (1, [.ref h1])), (h1, .inl (cI, nn, .inl (upd f i ((f i) + x))))]) := hD.addr rfl
  clear hP1 hk1
  generalize H1 = H at hP hS ⊢
  subst hAe
  exact wr_v (w1 := fun (_ : Unit) => [(h0, .inr (1, [.ref h1])), (h1, .inl (cI, nn, .inl (upd f i (f i + x))))]) hx hb hr hlocks hS () hP dX1_add_12 trivial
abbrev rm_X1_clear : Room := { frames := 0, cells := 0, slots := 0, locals := 0 }
set_option maxRecDepth 100000 in
set_option maxHeartbeats 4000000 in
theorem c_X1_clear (l : Launch) (D : va_G) (cI cB : ClassId) (aS : Nat) (h0 h1 nn : Nat) (f : Nat → Int32)  (hD0 : va_D (fun _ => True) ([(h0, .inr (1, [.ref h1])), (h1, .inl (cI, nn, .inl f))])) (qn : nn < 2147483648) : Met l yX1_clear (mw yX1_clear cX1_clear 2 none) rm_X1_clear (RP D cI cB aS ([(h0, .inr (1, [.ref h1])), (h1, .inl (cI, nn, .inl f))]) [.ref h0]) (wq mkV ([(h0, .inr (1, [.ref h1])), (h1, .inl (cI, nn, .inl f))]) (fun (_ : Unit) => [(h0, .inr (1, [.ref h1])), (h1, .inl (cI, nn, .inl (fun _ => nI 0)))]) D (fun (_ : Unit) (_ : Unit) => True)) 0 0 (inW ([(h0, .inr (1, [.ref h1])), (h1, .inl (cI, nn, .inl f))])) := by
  refine met_of (by decide) (Nat.le_of_ble_eq_true rfl) ?_
  intro p e s m below meth c ls hx hb hr hml hown hg hlocks hin hK hP hl
  have hown : s.vm.findClass RX1 = some m.cls := hown
  have hl : lv_has ls 2 [(0, .ref h0)] := hl
  have hD := hD0.here
  have hS0 : va_S (inW ([(h0, .inr (1, [.ref h1])), (h1, .inl (cI, nn, .inl f))])) s.heap s.heap [] := va_S.rf
  obtain ⟨H, hH⟩ : ∃ H, H = s.heap := ⟨_, rfl⟩
  have hS : va_S (inW ([(h0, .inr (1, [.ref h1])), (h1, .inl (cI, nn, .inl f))])) s.heap H [] := by rw [hH]; exact hS0
  clear hS0
  rw [← hH] at hP ⊢
  generalize hAe : inW ([(h0, .inr (1, [.ref h1])), (h1, .inl (cI, nn, .inl f))]) = A at hD hS ⊢
  refine lv_iconst (v := (nI 0)) hx hb dX1_clear_0 (by decide) ?_
  refine lv_istore_n (lv' := [(1, .int (nI 0)), (0, .ref h0)]) hx hb dX1_clear_1 rfl hl (by decide) rfl (fun ls hl => ?_)
  -- loop at 2
  refine loopW (nL := 2) (S := Unit) (B := nn) (I := fun i u => True) (lv := fun i u => [(0, .ref h0), (1, .int (nI i))]) (wf := fun i u => [(h0, .inr (1, [.ref h1])), (h1, .inl (cI, nn, .inl (cpF (fun _ => nI 0) f i)))]) 0 () (Nat.zero_le _) (trivial) (lv_sub hl [1, 0] rfl) (by show va_P D vwCl ([(h0, .inr (1, [.ref h1])), (h1, .inl (cI, nn, .inl (cpF (fun _ => nI 0) f 0)))]) H; rw [cpF_0]; exact hP) (hD.addr rfl) hS (fun i u ls H locs hj hI hl hP hD hS ih => ?_)
  have hP : va_P D vwCl ([(h0, .inr (1, [.ref h1])), (h1, .inl (cI, nn, .inl (cpF (fun _ => nI 0) f i)))]) H := hP
  have hD : va_D A ([(h0, .inr (1, [.ref h1])), (h1, .inl (cI, nn, .inl (cpF (fun _ => nI 0) f i)))]) := hD
  have hl : lv_has ls 2 [(0, .ref h0), (1, .int (nI i))] := hl
  have ih_2 := ih
  refine lv_iload_n hx hb dX1_clear_2 rfl (lv_at hl 1 rfl) ?_
  refine lv_aload_n hx hb dX1_clear_3 rfl (lv_at hl 0 rfl) ?_
  refine va_get (D := D) (ci := 1) (v := .ref h1) (C := RX1) (T := TX1) (N := 1) hx hb hg us_X1 hown hK.1 hP 0 rfl rfl 0 (by decide) (hg _ gm_24) (fun _ h9 => h9) rfl dX1_clear_4 ?_
  refine va_alen hx hb hK.1 hP 1 0 (v := nI nn) rfl rfl rfl dX1_clear_7 ?_
  refine nv_icmp_ge (tgt := 24) hx hb dX1_clear_8 (by omega) (by omega) (by decide) (fun c_8 => ?_) (fun c_8 => ?_)
  · skip
    have hP : va_P D vwCl ([(h0, .inr (1, [.ref h1])), (h1, .inl (cI, nn, .inl (fun _ => nI 0)))]) H := P_congr (g := (fun _ => nI 0)) hP 1 rfl (fun j hj => cpF_at (by omega))
    have hD : va_D A ([(h0, .inr (1, [.ref h1])), (h1, .inl (cI, nn, .inl (fun _ => nI 0)))]) := hD.addr rfl
    subst hAe
    exact wr_v (w1 := fun (_ : Unit) => [(h0, .inr (1, [.ref h1])), (h1, .inl (cI, nn, .inl (fun _ => nI 0)))]) hx hb hr hlocks hS () hP dX1_clear_24 trivial
  · skip
    refine lv_aload_n hx hb dX1_clear_11 rfl (lv_at hl 0 rfl) ?_
    refine va_get (D := D) (ci := 1) (v := .ref h1) (C := RX1) (T := TX1) (N := 1) hx hb hg us_X1 hown hK.1 hP 0 rfl rfl 0 (by decide) (hg _ gm_24) (fun _ h9 => h9) rfl dX1_clear_12 ?_
    refine lv_iload_n hx hb dX1_clear_15 rfl (lv_at hl 1 rfl) ?_
    refine lv_iconst (v := (nI 0)) hx hb dX1_clear_16 (by decide) ?_
    refine nv_iast hx hb hK.1 hP hD hS 1 0 rfl rfl (by omega) (by omega) dX1_clear_17 (fun H locs hP hD hS => ?_)
    have hP : va_P D vwCl ([(h0, .inr (1, [.ref h1])), (h1, .inl (cI, nn, .inl (upd (cpF (fun _ => nI 0) f i) i (nI 0))))]) H := hP
    have hD : va_D A ([(h0, .inr (1, [.ref h1])), (h1, .inl (cI, nn, .inl (upd (cpF (fun _ => nI 0) f i) i (nI 0))))]) := hD
    have e_1 : upd (cpF (fun _ => nI 0) f i) i (nI 0) = cpF (fun _ => nI 0) f (i + 1) := cpF_s rfl
    rw [e_1] at hP hD
    have hP : va_P D vwCl ([(h0, .inr (1, [.ref h1])), (h1, .inl (cI, nn, .inl (cpF (fun _ => nI 0) f (i + 1))))]) H := hP
    have hD : va_D A ([(h0, .inr (1, [.ref h1])), (h1, .inl (cI, nn, .inl (cpF (fun _ => nI 0) f (i + 1))))]) := hD
    refine lv_iinc (v := (nI (i + 1))) (lv' := [(1, .int (nI (i + 1))), (0, .ref h0)]) hx hb dX1_clear_18 hl (k := 1) rfl (nI_i1 _) (by decide) rfl (fun ls hl => ?_)
    refine lv_goto (tgt := 2) hx hb dX1_clear_21 (by decide) ?_
    exact ih_2 () _ _ _ (by omega) (trivial) (lv_sub hl [1, 0] rfl) hP (hD.addr rfl) hS
abbrev rm_X1_take : Room := { frames := 1, cells := 0, slots := 0, locals := 21 }
set_option maxRecDepth 100000 in
set_option maxHeartbeats 4000000 in
theorem c_X1_take (l : Launch) (D : va_G) (cI cB : ClassId) (aS : Nat) (h0 h1 nn : Nat) (f : Nat → Int32) (o0 o1 : Nat) (g : Nat → Int32)  (hD0 : va_D (fun _ => True) ([(h0, .inr (1, [.ref h1])), (h1, .inl (cI, nn, .inl f)), (o0, .inr (1, [.ref o1])), (o1, .inl (cI, nn, .inl g))])) (qn : nn < 2147483648) : Met l yX1_take (mw yX1_take cX1_take 3 none) rm_X1_take (RP D cI cB aS ([(h0, .inr (1, [.ref h1])), (h1, .inl (cI, nn, .inl f)), (o0, .inr (1, [.ref o1])), (o1, .inl (cI, nn, .inl g))]) [.ref h0, .ref o0]) (wq mkV ([(h0, .inr (1, [.ref h1])), (h1, .inl (cI, nn, .inl f)), (o0, .inr (1, [.ref o1])), (o1, .inl (cI, nn, .inl g))]) (fun (_ : Unit) => [(h0, .inr (1, [.ref h1])), (h1, .inl (cI, nn, .inl g)), (o0, .inr (1, [.ref o1])), (o1, .inl (cI, nn, .inl g))]) D (fun (_ : Unit) (_ : Unit) => True)) 0 0 (inW ([(h0, .inr (1, [.ref h1])), (h1, .inl (cI, nn, .inl f)), (o0, .inr (1, [.ref o1])), (o1, .inl (cI, nn, .inl g))])) := by
  refine met_of (by decide) (Nat.le_of_ble_eq_true rfl) ?_
  intro p e s m below meth c ls hx hb hr hml hown hg hlocks hin hK hP hl
  have hown : s.vm.findClass RX1 = some m.cls := hown
  have hl : lv_has ls 3 [(0, .ref h0), (1, .ref o0)] := hl
  have hD := hD0.here
  have hS0 : va_S (inW ([(h0, .inr (1, [.ref h1])), (h1, .inl (cI, nn, .inl f)), (o0, .inr (1, [.ref o1])), (o1, .inl (cI, nn, .inl g))])) s.heap s.heap [] := va_S.rf
  obtain ⟨H, hH⟩ : ∃ H, H = s.heap := ⟨_, rfl⟩
  have hS : va_S (inW ([(h0, .inr (1, [.ref h1])), (h1, .inl (cI, nn, .inl f)), (o0, .inr (1, [.ref o1])), (o1, .inl (cI, nn, .inl g))])) s.heap H [] := by rw [hH]; exact hS0
  clear hS0
  rw [← hH] at hP ⊢
  generalize hAe : inW ([(h0, .inr (1, [.ref h1])), (h1, .inl (cI, nn, .inl f)), (o0, .inr (1, [.ref o1])), (o1, .inl (cI, nn, .inl g))]) = A at hD hS ⊢
  refine lv_iconst (v := (nI 0)) hx hb dX1_take_0 (by decide) ?_
  refine lv_istore_n (lv' := [(2, .int (nI 0)), (0, .ref h0), (1, .ref o0)]) hx hb dX1_take_1 rfl hl (by decide) rfl (fun ls hl => ?_)
  -- loop at 2
  refine loopW (nL := 3) (S := Unit) (B := nn) (I := fun i u => True) (lv := fun i u => [(0, .ref h0), (1, .ref o0), (2, .int (nI i))]) (wf := fun i u => [(h0, .inr (1, [.ref h1])), (h1, .inl (cI, nn, .inl (cpF g f i))), (o0, .inr (1, [.ref o1])), (o1, .inl (cI, nn, .inl g))]) 0 () (Nat.zero_le _) (trivial) (lv_sub hl [1, 2, 0] rfl) (by show va_P D vwCl ([(h0, .inr (1, [.ref h1])), (h1, .inl (cI, nn, .inl (cpF g f 0))), (o0, .inr (1, [.ref o1])), (o1, .inl (cI, nn, .inl g))]) H; rw [cpF_0]; exact hP) (hD.addr rfl) hS (fun i u ls H locs hj hI hl hP hD hS ih => ?_)
  have hP : va_P D vwCl ([(h0, .inr (1, [.ref h1])), (h1, .inl (cI, nn, .inl (cpF g f i))), (o0, .inr (1, [.ref o1])), (o1, .inl (cI, nn, .inl g))]) H := hP
  have hD : va_D A ([(h0, .inr (1, [.ref h1])), (h1, .inl (cI, nn, .inl (cpF g f i))), (o0, .inr (1, [.ref o1])), (o1, .inl (cI, nn, .inl g))]) := hD
  have hl : lv_has ls 3 [(0, .ref h0), (1, .ref o0), (2, .int (nI i))] := hl
  have ih_2 := ih
  refine lv_iload_n hx hb dX1_take_2 rfl (lv_at hl 2 rfl) ?_
  refine lv_aload_n hx hb dX1_take_3 rfl (lv_at hl 0 rfl) ?_
  refine va_get (D := D) (ci := 1) (v := .ref h1) (C := RX1) (T := TX1) (N := 1) hx hb hg us_X1 hown hK.1 hP 0 rfl rfl 0 (by decide) (hg _ gm_24) (fun _ h9 => h9) rfl dX1_take_4 ?_
  refine va_alen hx hb hK.1 hP 1 0 (v := nI nn) rfl rfl rfl dX1_take_7 ?_
  refine nv_icmp_ge (tgt := 28) hx hb dX1_take_8 (by omega) (by omega) (by decide) (fun c_8 => ?_) (fun c_8 => ?_)
  · skip
    have hP : va_P D vwCl ([(h0, .inr (1, [.ref h1])), (h1, .inl (cI, nn, .inl g)), (o0, .inr (1, [.ref o1])), (o1, .inl (cI, nn, .inl g))]) H := P_congr (g := g) hP 1 rfl (fun j hj => cpF_at (by omega))
    have hD : va_D A ([(h0, .inr (1, [.ref h1])), (h1, .inl (cI, nn, .inl g)), (o0, .inr (1, [.ref o1])), (o1, .inl (cI, nn, .inl g))]) := hD.addr rfl
    subst hAe
    exact wr_v (w1 := fun (_ : Unit) => [(h0, .inr (1, [.ref h1])), (h1, .inl (cI, nn, .inl g)), (o0, .inr (1, [.ref o1])), (o1, .inl (cI, nn, .inl g))]) hx hb hr hlocks hS () hP dX1_take_28 trivial
  · skip
    refine lv_aload_n hx hb dX1_take_11 rfl (lv_at hl 0 rfl) ?_
    refine va_get (D := D) (ci := 1) (v := .ref h1) (C := RX1) (T := TX1) (N := 1) hx hb hg us_X1 hown hK.1 hP 0 rfl rfl 0 (by decide) (hg _ gm_24) (fun _ h9 => h9) rfl dX1_take_12 ?_
    refine lv_iload_n hx hb dX1_take_15 rfl (lv_at hl 2 rfl) ?_
    refine lv_aload_n hx hb dX1_take_16 rfl (lv_at hl 1 rfl) ?_
    refine lv_iload_n hx hb dX1_take_17 rfl (lv_at hl 2 rfl) ?_
    have hP_1 := hP.sub (ws' := [(o0, .inr (1, [.ref o1])), (o1, .inl (cI, nn, .inl g))]) [2, 3] rfl
    refine rdV (As := [.int (nI i)]) (rest := [.int (nI i), .ref h1]) hx hb hml hown hg (c_X1_at l D cI cB aS o0 o1 nn g i (by first | assumption | omega) (by first | assumption | omega)) gm_148 vf_X1_at ⟨Nat.le_of_ble_eq_true rfl, Nat.le_of_ble_eq_true rfl⟩ ⟨rfl, rfl⟩ ⟨Nat.zero_le _, Nat.zero_le _⟩ (RP.preV hK hP_1 (q0 := 0) (ci := 1) rfl rfl) rfl hl.1 rfl (Nat.le_of_ble_eq_true rfl) dX1_take_18 ?_
    refine nv_iast hx hb hK.1 hP hD hS 1 0 rfl rfl (by omega) (by omega) dX1_take_21 (fun H locs hP hD hS => ?_)
    have hP : va_P D vwCl ([(h0, .inr (1, [.ref h1])), (h1, .inl (cI, nn, .inl (upd (cpF g f i) i (g i)))), (o0, .inr (1, [.ref o1])), (o1, .inl (cI, nn, .inl g))]) H := hP
    have hD : va_D A ([(h0, .inr (1, [.ref h1])), (h1, .inl (cI, nn, .inl (upd (cpF g f i) i (g i)))), (o0, .inr (1, [.ref o1])), (o1, .inl (cI, nn, .inl g))]) := hD
    have e_2 : upd (cpF g f i) i (g i) = cpF g f (i + 1) := cpF_s rfl
    rw [e_2] at hP hD
    have hP : va_P D vwCl ([(h0, .inr (1, [.ref h1])), (h1, .inl (cI, nn, .inl (cpF g f (i + 1)))), (o0, .inr (1, [.ref o1])), (o1, .inl (cI, nn, .inl g))]) H := hP
    have hD : va_D A ([(h0, .inr (1, [.ref h1])), (h1, .inl (cI, nn, .inl (cpF g f (i + 1)))), (o0, .inr (1, [.ref o1])), (o1, .inl (cI, nn, .inl g))]) := hD
    refine lv_iinc (v := (nI (i + 1))) (lv' := [(2, .int (nI (i + 1))), (0, .ref h0), (1, .ref o0)]) hx hb dX1_take_22 hl (k := 2) rfl (nI_i1 _) (by decide) rfl (fun ls hl => ?_)
    refine lv_goto (tgt := 2) hx hb dX1_take_25 (by decide) ?_
    exact ih_2 () _ _ _ (by omega) (trivial) (lv_sub hl [1, 2, 0] rfl) hP (hD.addr rfl) hS
abbrev rm_X0_startAnew : Room := { frames := 1, cells := 0, slots := 0, locals := 21 }
theorem vf_X1_clear : vfacts RX1 yX1_clear cX1_clear 2 none 0 := ⟨⟨rfl, by decide +kernel, by decide +kernel, by decide +kernel⟩, gm_311, gm_312, gm_3, gm_313⟩
set_option maxRecDepth 100000 in
set_option maxHeartbeats 4000000 in
theorem c_X0_startAnew (l : Launch) (D : va_G) (cI cB : ClassId) (aS : Nat) (m0 m1 m2 m3 m4 m5 m6 m7 mb td nd nh : Nat) (bs : Int32) (bo : Nat → Int32) (hD0 : va_D (fun _ => True) ([(m0, .inr (0, [.int (nI td), .int bs, .int (nI nd), .int (nI nh), .ref m1, .ref m2, .ref m3, .ref m4, .ref m5, .ref m6, .ref m7])), (m3, .inr (1, [.ref mb])), (mb, .inl (cI, 6, .inl bo))])) : Met l yX0_startAnew (mw yX0_startAnew cX0_startAnew 1 none) rm_X0_startAnew (RP D cI cB aS ([(m0, .inr (0, [.int (nI td), .int bs, .int (nI nd), .int (nI nh), .ref m1, .ref m2, .ref m3, .ref m4, .ref m5, .ref m6, .ref m7])), (m3, .inr (1, [.ref mb])), (mb, .inl (cI, 6, .inl bo))]) [.ref m0]) (wq mkV ([(m0, .inr (0, [.int (nI td), .int bs, .int (nI nd), .int (nI nh), .ref m1, .ref m2, .ref m3, .ref m4, .ref m5, .ref m6, .ref m7])), (m3, .inr (1, [.ref mb])), (mb, .inl (cI, 6, .inl bo))]) (fun (_ : Unit) => [(m0, .inr (0, [.int (nI 0), .int (nI 0), .int (nI 0), .int (nI 0), .ref m1, .ref m2, .ref m3, .ref m4, .ref m5, .ref m6, .ref m7])), (m3, .inr (1, [.ref mb])), (mb, .inl (cI, 6, .inl (fun _ => nI 0)))]) D (fun (_ : Unit) (_ : Unit) => True)) 0 0 (inW ([(m0, .inr (0, [.int (nI td), .int bs, .int (nI nd), .int (nI nh), .ref m1, .ref m2, .ref m3, .ref m4, .ref m5, .ref m6, .ref m7])), (m3, .inr (1, [.ref mb])), (mb, .inl (cI, 6, .inl bo))])) := by
  refine met_of (by decide) (Nat.le_of_ble_eq_true rfl) ?_
  intro p e s m below meth c ls hx hb hr hml hown hg hlocks hin hK hP hl
  have hown : s.vm.findClass RX0 = some m.cls := hown
  have hl : lv_has ls 1 [(0, .ref m0)] := hl
  have hD := hD0.here
  have hS0 : va_S (inW ([(m0, .inr (0, [.int (nI td), .int bs, .int (nI nd), .int (nI nh), .ref m1, .ref m2, .ref m3, .ref m4, .ref m5, .ref m6, .ref m7])), (m3, .inr (1, [.ref mb])), (mb, .inl (cI, 6, .inl bo))])) s.heap s.heap [] := va_S.rf
  obtain ⟨H, hH⟩ : ∃ H, H = s.heap := ⟨_, rfl⟩
  have hS : va_S (inW ([(m0, .inr (0, [.int (nI td), .int bs, .int (nI nd), .int (nI nh), .ref m1, .ref m2, .ref m3, .ref m4, .ref m5, .ref m6, .ref m7])), (m3, .inr (1, [.ref mb])), (mb, .inl (cI, 6, .inl bo))])) s.heap H [] := by rw [hH]; exact hS0
  clear hS0
  rw [← hH] at hP ⊢
  generalize hAe : inW ([(m0, .inr (0, [.int (nI td), .int bs, .int (nI nd), .int (nI nh), .ref m1, .ref m2, .ref m3, .ref m4, .ref m5, .ref m6, .ref m7])), (m3, .inr (1, [.ref mb])), (mb, .inl (cI, 6, .inl bo))]) = A at hD hS ⊢
  refine lv_aload_n hx hb dX0_startAnew_0 rfl (lv_at hl 0 rfl) ?_
  refine lv_iconst (v := (nI 0)) hx hb dX0_startAnew_1 (by decide) ?_
  refine va_put (D := D) (ci := 0) (v := .int (nI 0)) (ty := .int) (C := RX0) (T := TX0) (N := 11) hx hb hg us_X0 tyX0 tyX0_ok nmX0 hown hK.1 hP hD hS 0 rfl rfl 0 (by decide) (hg _ gm_35) (fun _ h9 => h9) rfl (by decide +kernel) rfl rfl (Nat.le_of_ble_eq_true rfl) dX0_startAnew_2 (fun H locs hP hD hS => ?_)
  have hP : va_P D vwCl ([(m0, .inr (0, [.int (nI 0), .int bs, .int (nI nd), .int (nI nh), .ref m1, .ref m2, .ref m3, .ref m4, .ref m5, .ref m6, .ref m7])), (m3, .inr (1, [.ref mb])), (mb, .inl (cI, 6, .inl bo))]) H := hP
  have hD : va_D A ([(m0, .inr (0, [.int (nI 0), .int bs, .int (nI nd), .int (nI nh), .ref m1, .ref m2, .ref m3, .ref m4, .ref m5, .ref m6, .ref m7])), (m3, .inr (1, [.ref mb])), (mb, .inl (cI, 6, .inl bo))]) := hD
  refine lv_aload_n hx hb dX0_startAnew_5 rfl (lv_at hl 0 rfl) ?_
  refine lv_iconst (v := (nI 0)) hx hb dX0_startAnew_6 (by decide) ?_
  refine va_put (D := D) (ci := 0) (v := .int (nI 0)) (ty := .int) (C := RX0) (T := TX0) (N := 11) hx hb hg us_X0 tyX0 tyX0_ok nmX0 hown hK.1 hP hD hS 0 rfl rfl 1 (by decide) (hg _ gm_37) (fun _ h9 => h9) rfl (by decide +kernel) rfl rfl (Nat.le_of_ble_eq_true rfl) dX0_startAnew_7 (fun H locs hP hD hS => ?_)
  have hP : va_P D vwCl ([(m0, .inr (0, [.int (nI 0), .int (nI 0), .int (nI nd), .int (nI nh), .ref m1, .ref m2, .ref m3, .ref m4, .ref m5, .ref m6, .ref m7])), (m3, .inr (1, [.ref mb])), (mb, .inl (cI, 6, .inl bo))]) H := hP
  have hD : va_D A ([(m0, .inr (0, [.int (nI 0), .int (nI 0), .int (nI nd), .int (nI nh), .ref m1, .ref m2, .ref m3, .ref m4, .ref m5, .ref m6, .ref m7])), (m3, .inr (1, [.ref mb])), (mb, .inl (cI, 6, .inl bo))]) := hD
  refine lv_aload_n hx hb dX0_startAnew_10 rfl (lv_at hl 0 rfl) ?_
  refine lv_iconst (v := (nI 0)) hx hb dX0_startAnew_11 (by decide) ?_
  refine va_put (D := D) (ci := 0) (v := .int (nI 0)) (ty := .int) (C := RX0) (T := TX0) (N := 11) hx hb hg us_X0 tyX0 tyX0_ok nmX0 hown hK.1 hP hD hS 0 rfl rfl 2 (by decide) (hg _ gm_39) (fun _ h9 => h9) rfl (by decide +kernel) rfl rfl (Nat.le_of_ble_eq_true rfl) dX0_startAnew_12 (fun H locs hP hD hS => ?_)
  have hP : va_P D vwCl ([(m0, .inr (0, [.int (nI 0), .int (nI 0), .int (nI 0), .int (nI nh), .ref m1, .ref m2, .ref m3, .ref m4, .ref m5, .ref m6, .ref m7])), (m3, .inr (1, [.ref mb])), (mb, .inl (cI, 6, .inl bo))]) H := hP
  have hD : va_D A ([(m0, .inr (0, [.int (nI 0), .int (nI 0), .int (nI 0), .int (nI nh), .ref m1, .ref m2, .ref m3, .ref m4, .ref m5, .ref m6, .ref m7])), (m3, .inr (1, [.ref mb])), (mb, .inl (cI, 6, .inl bo))]) := hD
  refine lv_aload_n hx hb dX0_startAnew_15 rfl (lv_at hl 0 rfl) ?_
  refine lv_iconst (v := (nI 0)) hx hb dX0_startAnew_16 (by decide) ?_
  refine va_put (D := D) (ci := 0) (v := .int (nI 0)) (ty := .int) (C := RX0) (T := TX0) (N := 11) hx hb hg us_X0 tyX0 tyX0_ok nmX0 hown hK.1 hP hD hS 0 rfl rfl 3 (by decide) (hg _ gm_41) (fun _ h9 => h9) rfl (by decide +kernel) rfl rfl (Nat.le_of_ble_eq_true rfl) dX0_startAnew_17 (fun H locs hP hD hS => ?_)
  have hP : va_P D vwCl ([(m0, .inr (0, [.int (nI 0), .int (nI 0), .int (nI 0), .int (nI 0), .ref m1, .ref m2, .ref m3, .ref m4, .ref m5, .ref m6, .ref m7])), (m3, .inr (1, [.ref mb])), (mb, .inl (cI, 6, .inl bo))]) H := hP
  have hD : va_D A ([(m0, .inr (0, [.int (nI 0), .int (nI 0), .int (nI 0), .int (nI 0), .ref m1, .ref m2, .ref m3, .ref m4, .ref m5, .ref m6, .ref m7])), (m3, .inr (1, [.ref mb])), (mb, .inl (cI, 6, .inl bo))]) := hD
  refine lv_aload_n hx hb dX0_startAnew_20 rfl (lv_at hl 0 rfl) ?_
  refine va_get (D := D) (ci := 0) (v := .ref m3) (C := RX0) (T := TX0) (N := 11) hx hb hg us_X0 hown hK.1 hP 0 rfl rfl 6 (by decide) (hg _ gm_47) (fun _ h9 => h9) rfl dX0_startAnew_21 ?_
  have hP_1 := hP.sub (ws' := [(m3, .inr (1, [.ref mb])), (mb, .inl (cI, 6, .inl bo))]) [1, 2] rfl
  have hC_2 : ([1, 2] : List Nat).map (fun q_ => ([(m0, .inr (0, [.int (nI 0), .int (nI 0), .int (nI 0), .int (nI 0), .ref m1, .ref m2, .ref m3, .ref m4, .ref m5, .ref m6, .ref m7])), (m3, .inr (1, [.ref mb])), (mb, .inl (cI, 6, .inl bo))] : va_W)[q_]?) = List.map some ([(m3, .inr (1, [.ref mb])), (mb, .inl (cI, 6, .inl bo))] : va_W) := rfl
  have hDc_2 : va_D (fun _ => True) [(m3, .inr (1, [.ref mb])), (mb, .inl (cI, 6, .inl bo))] := (hD.sub (ws' := [(m3, .inr (1, [.ref mb])), (mb, .inl (cI, 6, .inl bo))]) [1, 2] (by decide) hC_2).weaken (fun _ _ _ _ => trivial)
  refine wrVv (As := []) (rest := []) hx hb hml hown hg (c_X1_clear l D cI cB aS m3 mb 6 bo hDc_2 (by first | assumption | omega)) gm_310 vf_X1_clear ⟨Nat.le_of_ble_eq_true rfl, Nat.le_of_ble_eq_true rfl⟩ ⟨rfl, rfl⟩ ⟨Nat.zero_le _, Nat.zero_le _⟩ (RP.preV hK hP_1 (q0 := 0) (ci := 1) rfl rfl) rfl hl.1 rfl (Nat.le_of_ble_eq_true rfl) dX0_startAnew_24 hS (inW_sub hD [1, 2] hC_2) (fun u_3 H1 locs hpo_3 hP1 hk1 hS => ?_)
  have hP : va_P D vwCl ([(m0, .inr (0, [.int (nI 0), .int (nI 0), .int (nI 0), .int (nI 0), .ref m1, .ref m2, .ref m3, .ref m4, .ref m5, .ref m6, .ref m7])), (m3, .inr (1, [.ref mb])), (mb, .inl (cI, 6, .inl (fun _ => nI 0)))]) H1 := wjoin (wc := [(m3, .inr (1, [.ref mb])), (mb, .inl (cI, 6, .inl bo))]) (w1 := [(m3, .inr (1, [.ref mb])), (mb, .inl (cI, 6, .inl (fun _ => nI 0)))]) hP hD [1, 2] hC_2 rfl hP1 hk1
  have hD : va_D A ([(m0, .inr (0, [.int (nI 0), .int (nI 0), .int (nI 0), .int (nI 0), .ref m1, .ref m2, .ref m3, .ref m4, .ref m5, .ref m6, .ref m7])), (m3, .inr (1, [.ref mb])), (mb, .inl (cI, 6, .inl (fun _ => nI 0)))]) := hD.addr rfl
  clear hP1 hk1
  generalize H1 = H at hP hS ⊢
  subst hAe
  exact wr_v (w1 := fun (_ : Unit) => [(m0, .inr (0, [.int (nI 0), .int (nI 0), .int (nI 0), .int (nI 0), .ref m1, .ref m2, .ref m3, .ref m4, .ref m5, .ref m6, .ref m7])), (m3, .inr (1, [.ref mb])), (mb, .inl (cI, 6, .inl (fun _ => nI 0)))]) hx hb hr hlocks hS () hP dX0_startAnew_27 trivial
