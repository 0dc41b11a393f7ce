/-! ===== the script ===== -/
def RPX (D : va_G) (cI cB : ClassId) (aS q L : Nat) (xs : Nat → Int32) (av : List Value) : Array Value → State → Prop := fun v U => v = av.toArray ∧ va_X q L xs U U.heap ∧ KP D cI cB aS U
theorem RPX.blind {D : va_G} {cI cB : ClassId} {aS q L : Nat} {xs : Nat → Int32} {av : List Value} : FrameBlind (RPX D cI cB aS q L xs av) := fun a U g mk h => ⟨h.1, va_X.moved (u := U) (U := U.calling g mk a) (Vm.Alike.refl U.vm) h.2.1, h.2.2.calling g mk a⟩
theorem RPX.preS {D : va_G} {cI cB : ClassId} {aS q L : Nat} {xs : Nat → Int32} {s : State} {H : Heap} (hK : KP D cI cB aS s) (hX : va_X q L xs s H) {As : List Value} : PreS s H (RPX D cI cB aS q L xs As) As :=
  ⟨RPX.blind, fun U hU hW => ⟨rfl, by rw [hU]; exact va_X.moved hW.alike hX, hK.warm hW⟩⟩
theorem X_at {q L : Nat} {xs : Nat → Int32} {s : State} {H0 H : Heap} {A : Nat → Prop} {locs : List Loc} (hX : va_X q L xs s H0) (hbl : q < H0.size) (hbA : ¬ A q) (hS : va_S A H0 H locs) : va_X q L xs s H := hX.kept (hS.2.1 q hbl hbA)
theorem X_lt {q L : Nat} {xs : Nat → Int32} {s : State} {H : Heap} (hX : va_X q L xs s H) : q < H.size := by
  obtain ⟨scr, h1, -⟩ := hX
  exact (Array.getElem?_eq_some_iff.mp h1).1
theorem met_ofX {l : Launch} {y : MethodName} {bts : ByteArray} {n : Nat} {ret : Option FieldType} {rm : Room} {D : va_G} {cI cB : ClassId} {aS q L : Nat} {xs : Nat → Int32} {av : List Value} {Qc : Array Value → State → Outcome → State → Prop} {mc ms : Nat} {free : Addr → Prop} (hpl : plainName y.cls = true) (hlen : (lg_sl av).length ≤ n)
    (body : ∀ (p : Program) (e : Env) (s : State) (m : MethodId) (below : List Frame) (meth : Method) (c : Code) (ls : Array Slot), p.tables.exec = Jvm.exec → c.code = bts → meth.sig.returnType = ret → c.maxLocals = n → s.vm.findClass y.cls = some m.cls → (∀ w ∈ gG, w.before av.toArray s = true) → meth.locks = false → KP D cI cB aS s → va_X q L xs s s.heap → lv_has ls n (lv_args 0 av) → W p l e rm s m av.toArray below meth c s.heap [] 0 0 (MQ below Qc av.toArray s mc ms free) (F0 m 0 ls [])) :
    Met l y (mw y bts n ret) rm (RPX D cI cB aS q L xs av) Qc mc ms free := by
  refine Met.ofW (cc := bts) (maxL := n) (ret := ret) hpl rfl ?_
  intro p e s m args below meth c s₁ B hml hv
  obtain ⟨rfl, hX, hK⟩ := hv
  have hts := atoms_spec (ws := mw y bts n ret) B.pre
  have hl := lv_entry av (n := n) hlen
  rw [lg_entry_eq]
  exact body p e s m below meth c _ B.exec B.bytes B.returns hml (findClass_of_methodNamed B.named) (fun w hw => hts w (List.mem_cons_of_mem _ hw)) B.notSynchronized hK hX hl
abbrev rm_L_cell : Room := { frames := 0, cells := 0, slots := 0, locals := 0 }
set_option maxRecDepth 100000 in
set_option maxHeartbeats 4000000 in
theorem c_L_cell (l : Launch) (D : va_G) (cI cB : ClassId) (aS : Nat) (q L : Nat) (xs : Nat → Int32) (k : Nat) (qL : L < 2147483648) (qk : k < 1000) : Met l yL_cell (mw yL_cell cL_cell 2 (some .int)) rm_L_cell (RPX D cI cB aS q L xs [.ref q, .int (nI k)]) (vp_Si (fun r => r = nI (clF L xs k))) 0 0 (fun _ => False) := by
  refine met_ofX (by decide) (Nat.le_of_ble_eq_true rfl) ?_
  intro p e s m below meth c ls hx hb hr hml hown hg hlocks hK hX hl
  have hown : s.vm.findClass RL = some m.cls := hown
  have hl : lv_has ls 2 [(0, .ref q), (1, .int (nI k))] := hl
  have hbl := X_lt hX
  have hS : va_S (fun _ => False) s.heap s.heap [] := va_S.rf
  have hbA : ¬ (fun _ : Nat => False) q := fun h => h
  have fin : ∀ v : Int32, v = (if k < L then xs k else nI (7919 * k + 13)) → W p l e rm_L_cell s m [Value.ref q, .int (nI k)].toArray below meth c s.heap [] 0 0 (MQ below (vp_Si (fun r => r = nI (clF L xs k))) [Value.ref q, .int (nI k)].toArray s 0 0 (fun _ => False)) (F0 m 20 ls [.int v]) := by
    intro v hv
    refine lv_ldc (v := (2147483647 : Int32)) hx hb hown (hg _ gm_233) dL_cell_20 ?_
    refine lv_iand hx hb dL_cell_22 ?_
    refine rr_i hx hb hr hlocks dL_cell_23 ?_
    rw [hv]
    exact (cl_of _).1
  refine lv_iload_n hx hb dL_cell_0 rfl (lv_at hl 1 rfl) ?_
  refine lv_aload_n hx hb dL_cell_1 rfl (lv_at hl 0 rfl) ?_
  refine va_slen hx hb hX hbl hbA hS dL_cell_2 ?_
  refine nv_icmp_ge (b := L) (tgt := 12) hx hb dL_cell_3 (by omega) (by omega) (by decide) (fun h => ?_) (fun h => ?_)
  · refine lv_sipush (v := nI 7919) hx hb dL_cell_12 (by decide) ?_
    refine lv_iload_n hx hb dL_cell_15 rfl (lv_at hl 1 rfl) ?_
    refine nv_imul hx hb dL_cell_16 ?_
    refine lv_bipush (v := nI 13) hx hb dL_cell_17 (by decide) ?_
    refine nv_iadd hx hb dL_cell_19 ?_
    exact fin _ (if_neg (by omega)).symm
  · refine lv_aload_n hx hb dL_cell_6 rfl (lv_at hl 0 rfl) ?_
    refine lv_iload_n hx hb dL_cell_7 rfl (lv_at hl 1 rfl) ?_
    refine va_sld hx hb hX hbl hbA hS (vp_in_nI (by omega) (by omega)) dL_cell_8 ?_
    refine lv_goto (tgt := 20) hx hb dL_cell_9 (by decide) ?_
    exact fin _ (by rw [nI_clamp (by omega), if_pos (by omega)])
