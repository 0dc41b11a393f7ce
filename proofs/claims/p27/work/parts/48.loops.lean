set_option maxRecDepth 100000 in
set_option maxHeartbeats 4000000 in
theorem law_t {p : Program} {l : Launch} {e : Env} {s : State} {m : MethodId} {args : Array Value} {below : List Frame} {meth : Method} {c : Code} {D : va_G} {cI cB : ClassId} {aS aV : Nat} {A : Nat → Prop} {a y : Nat → Nat} {q L : Nat} {xs : Nat → Int32} {cells slots : Nat} {Q : State → Prop} (C : zC p s m c args D cI cB aS aV A a y q L xs) (hc : cells ≤ room_1.cells ∧ slots ≤ room_1.slots) {trip n : Nat} (ht2 : trip < 2) (kk : ∀ (nd : Nat) (owed : Int32) (H : Heap) (locs : List Loc) (ls : Array Slot), zJ D cI cB A a y s n nd owed H locs → lv_has ls 25 [(0, .ref q), (1, .ref (a 0)), (2, .ref (y 0)), (3, .ref (y 1)), (4, .ref (y 2)), (5, .ref (y 3)), (6, .ref (y 4)), (7, .int (nI trip)), (8, .int (nI (29 * trip))), (9, .int (nI n)), (10, .int owed), (11, .int (nI nd))] → W p l e room_1 s m args below meth c H locs cells slots Q (F0 m 1024 ls [])) : ∀ (k t : Nat), 22 ≤ t + k → t ≤ 22 → ∀ (nd : Nat) (owed : Int32) (H : Heap) (locs : List Loc) (ls : Array Slot), zJ D cI cB A a y s n nd owed H locs → lv_has ls 25 [(0, .ref q), (1, .ref (a 0)), (2, .ref (y 0)), (3, .ref (y 1)), (4, .ref (y 2)), (5, .ref (y 3)), (6, .ref (y 4)), (7, .int (nI trip)), (8, .int (nI (29 * trip))), (9, .int (nI n)), (10, .int owed), (11, .int (nI nd)), (12, .int (nI t))] → W p l e room_1 s m args below meth c H locs cells slots Q (F0 m 97 ls []) := by
  obtain ⟨hx, hb, -, -, -, -, -, -, -, -, -, -⟩ := id C
  intro k
  induction k with
  | zero =>
    intro t h1 h2 nd owed H locs ls j9 hl
    refine lv_iload hx hb dL_law_97 (lv_at hl 12 rfl) ?_
    refine lv_bipush (v := nI 22) hx hb dL_law_99 (by decide) ?_
    refine nv_icmp_ge (tgt := 1024) hx hb dL_law_101 (by omega) (by omega) (by decide) (fun c1 => ?_) (fun c1 => ?_)
    · exact kk nd owed _ _ _ j9 (lv_sub hl [0, 1, 2, 3, 4, 5, 6, 7, 8, 9, 10, 11] rfl)
    · exact absurd c1 (by omega)
  | succ k ih =>
    intro t h1 h2 nd owed H locs ls j9 hl
    refine lv_iload hx hb dL_law_97 (lv_at hl 12 rfl) ?_
    refine lv_bipush (v := nI 22) hx hb dL_law_99 (by decide) ?_
    refine nv_icmp_ge (tgt := 1024) hx hb dL_law_101 (by omega) (by omega) (by decide) (fun c1 => ?_) (fun c1 => ?_)
    · exact kk nd owed _ _ _ j9 (lv_sub hl [0, 1, 2, 3, 4, 5, 6, 7, 8, 9, 10, 11] rfl)
    · have ht : t < 22 := by omega
      refine law_act C hc ht2 ht j9 hl (fun x H locs ls qx j9 hl => ?_)
      refine law_debt C hc ht qx j9 hl (fun nd owed H locs ls j9 hl => ?_)
      refine law_houses C hc qx j9 hl (fun H locs ls j9 hl => ?_)
      refine law_years C hc ht2 ht qx j9 hl (fun H locs ls j9 hl => ?_)
      refine lv_iinc (v := nI (t + 1)) (lv' := [(12, .int (nI (t + 1))), (0, .ref q), (1, .ref (a 0)), (2, .ref (y 0)), (3, .ref (y 1)), (4, .ref (y 2)), (5, .ref (y 3)), (6, .ref (y 4)), (7, .int (nI trip)), (8, .int (nI (29 * trip))), (9, .int (nI n)), (10, .int owed), (11, .int (nI nd))]) hx hb dL_law_1018 hl (k := 12) rfl (nI_i1 _) (by decide) rfl (fun ls hl => ?_)
      refine lv_goto (tgt := 97) hx hb dL_law_1021 (by decide) ?_
      exact ih (t + 1) (by omega) (by omega) nd owed H locs ls j9 (lv_sub hl [1, 2, 3, 4, 5, 6, 7, 8, 9, 10, 11, 12, 0] rfl)
set_option maxRecDepth 100000 in
set_option maxHeartbeats 4000000 in
theorem law_trip {p : Program} {l : Launch} {e : Env} {s : State} {m : MethodId} {below : List Frame} {meth : Method} {c : Code} {D : va_G} {cI cB : ClassId} {aS aV : Nat} {A : Nat → Prop} {a y : Nat → Nat} {q L : Nat} {xs : Nat → Int32} (hr : meth.sig.returnType = ret) (hlocks : meth.locks = false) (C : zC p s m c #[Value.ref q] D cI cB aS aV A a y q L xs) (hAo : ∀ r, A r → s.heap.size ≤ r) : ∀ (k trip : Nat), 2 ≤ trip + k → trip ≤ 2 → ∀ (H : Heap) (locs : List Loc) (ls : Array Slot), zT D cI cB A a y s trip H locs → lv_has ls 25 [(0, .ref q), (1, .ref (a 0)), (2, .ref (y 0)), (3, .ref (y 1)), (4, .ref (y 2)), (5, .ref (y 3)), (6, .ref (y 4)), (7, .int (nI trip))] → W p l e room_1 s m #[Value.ref q] below meth c H locs 46 670 (lw_Z below #[Value.ref q] s) (F0 m 39 ls []) := by
  obtain ⟨hx, hb, -, -, -, -, -, -, -, -, -, -⟩ := id C
  have hc : 46 ≤ room_1.cells ∧ 670 ≤ room_1.slots := ⟨Nat.le_of_ble_eq_true rfl, Nat.le_of_ble_eq_true rfl⟩
  intro k
  induction k with
  | zero =>
    intro trip h1 h2 H locs ls t9 hl
    refine lv_iload hx hb dL_law_39 (lv_at hl 7 rfl) ?_
    refine lv_iconst (v := nI 2) hx hb dL_law_41 (by decide) ?_
    refine nv_icmp_ge (tgt := 1276) hx hb dL_law_42 (by omega) (by omega) (by decide) (fun c1 => ?_) (fun c1 => ?_)
    · exact law_days hr hlocks C hAo (by omega) t9 hl
    · exact absurd c1 (by omega)
  | succ k ih =>
    intro trip h1 h2 H locs ls t9 hl
    refine lv_iload hx hb dL_law_39 (lv_at hl 7 rfl) ?_
    refine lv_iconst (v := nI 2) hx hb dL_law_41 (by decide) ?_
    refine nv_icmp_ge (tgt := 1276) hx hb dL_law_42 (by omega) (by omega) (by decide) (fun c1 => ?_) (fun c1 => ?_)
    · exact law_days hr hlocks C hAo (by omega) t9 hl
    · have ht2 : trip < 2 := by omega
      refine law_street C hc ht2 t9 hl (fun n H locs ls j9 hl => ?_)
      refine law_t C hc ht2 (fun nd owed H locs ls j9 hl => ?_) 22 0 (by omega) (by omega) 0 (nI 0) H locs ls j9 hl
      refine law_refused C hc j9 hl (fun H locs ls t9 hl => ?_)
      refine lv_iinc (v := nI (trip + 1)) (lv' := [(7, .int (nI (trip + 1))), (0, .ref q), (1, .ref (a 0)), (2, .ref (y 0)), (3, .ref (y 1)), (4, .ref (y 2)), (5, .ref (y 3)), (6, .ref (y 4))]) hx hb dL_law_1270 hl (k := 7) rfl (nI_i1 _) (by decide) rfl (fun ls hl => ?_)
      refine lv_goto (tgt := 39) hx hb dL_law_1273 (by decide) ?_
      exact ih (trip + 1) (by omega) (by omega) H locs ls t9 (lv_sub hl [1, 2, 3, 4, 5, 6, 7, 0] rfl)
