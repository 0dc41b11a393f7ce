/-! ===== calls of static writers; booleans of writers ===== -/
section WCALLS
variable {p : Program} {l : Launch} {e : Env} {R : Room} {s : State} {m : MethodId} {args : Array Value} {below : List Frame} {meth : Method} {c : Code} {H : Heap} {locs : List Loc} {cells slots : Nat} {Q : State → Prop}
variable {cc : ByteArray} {pc : Nat} {ls : Array Slot} {rest st : List Value} {nL idx n k : Nat} {own C : String} {y : MethodName} {bts : ByteArray} {ret : Option FieldType} {rm : Room} {Pc : Array Value → State → Prop} {As : List Value} {A0 : Nat → Prop} {H0 : Heap} {D : va_G} {w : va_W}
theorem wrS {α S : Type} {mk : α → Option Value} {w1 : S → va_W} {post : α → S → Prop} (hx : p.tables.exec = Jvm.exec) (hb : c.code = cc) (hml : c.maxLocals = nL) (hown : s.vm.findClass own = some m.cls) (hg : ∀ w ∈ gG, w.before args s = true) (hM : Met l y (mw y bts n ret) rm Pc (wq mk w w1 D post) 0 0 (inW w)) (hl : Cond.methodLink own idx y ∈ gG) (hy : sfacts C y bts n ret k) (hR : rm.frames + 1 ≤ R.frames ∧ 8 + (n + 11) + rm.locals ≤ R.locals) (hz : rm.cells = 0 ∧ rm.slots = 0) (hc : cells ≤ R.cells ∧ slots ≤ R.slots) (hp : PreS s H Pc As) (hn : As.length = k) (hsz : ls.size = nL) (hst : st = As.reverse ++ rest) (hroom : (rest.map fun v => v.category).sum ≤ 8) (hdg : decode cc pc = .ok (.invokestatic idx, 3)) (hS : va_S A0 H0 H locs) (hf : ∀ q, inW w q → A0 q)
    (kk : ∀ (r : α) (u : S) (H1 : Heap) (locs1 : List Loc), post r u → va_P D vwCl (w1 u) H1 → (∀ q : Nat, q < H.size → ¬ inW w q → H1[q]? = H[q]?) → va_S A0 H0 H1 locs1 → W p l e R s m args below meth c H1 locs1 cells slots Q (F0 m (pc + 3) ls ((mk r).toList ++ rest))) : W p l e R s m args below meth c H locs cells slots Q (F0 m pc ls st) := by
  intro T hT X
  obtain ⟨v, st₀, t, T', L, h0, X', hL, e1, ⟨⟨r, u, hv, hpo, hP1⟩, hsz1, hk⟩, stp⟩ := (W.runS (As := As) (rest := rest) ⟨hx, hb, hml, hown, hg⟩ hM (cwS_of hg hl hy hz.1 hz.2 hR) hp rfl hn hsz hst (lv_room hroom) hdg hc) T hT X
  cases hv
  rw [h0] at hsz1 hk
  obtain ⟨t2, a1, b1⟩ := kk r u t.heap (locs ++ L) hpo hP1 hk
    ⟨Nat.le_trans hS.1 hsz1, fun q h1 h2 => by rw [hk q (Nat.lt_of_lt_of_le h1 hS.1) (fun z => h2 (hf q z))]; exact hS.2.1 q h1 h2, fun q hq => by
      rcases List.mem_append.mp hq with h | h
      · exact hS.2.2 q h
      · exact hf _ (hL q h)⟩ T' e1 X'
  exact ⟨t2, stp t2 a1, b1⟩
theorem wrSi {S : Type} {w1 : S → va_W} {post : Int32 → S → Prop} (hx : p.tables.exec = Jvm.exec) (hb : c.code = cc) (hml : c.maxLocals = nL) (hown : s.vm.findClass own = some m.cls) (hg : ∀ w ∈ gG, w.before args s = true) (hM : Met l y (mw y bts n ret) rm Pc (wq mkI w w1 D post) 0 0 (inW w)) (hl : Cond.methodLink own idx y ∈ gG) (hy : sfacts C y bts n ret k) (hR : rm.frames + 1 ≤ R.frames ∧ 8 + (n + 11) + rm.locals ≤ R.locals) (hz : rm.cells = 0 ∧ rm.slots = 0) (hc : cells ≤ R.cells ∧ slots ≤ R.slots) (hp : PreS s H Pc As) (hn : As.length = k) (hsz : ls.size = nL) (hst : st = As.reverse ++ rest) (hroom : (rest.map fun v => v.category).sum ≤ 8) (hdg : decode cc pc = .ok (.invokestatic idx, 3)) (hS : va_S A0 H0 H locs) (hf : ∀ q, inW w q → A0 q)
    (kk : ∀ (r : Int32) (u : S) (H1 : Heap) (locs1 : List Loc), post r u → va_P D vwCl (w1 u) H1 → (∀ q : Nat, q < H.size → ¬ inW w q → H1[q]? = H[q]?) → va_S A0 H0 H1 locs1 → W p l e R s m args below meth c H1 locs1 cells slots Q (F0 m (pc + 3) ls (.int r :: rest))) : W p l e R s m args below meth c H locs cells slots Q (F0 m pc ls st) :=
  wrS hx hb hml hown hg hM hl hy hR hz hc hp hn hsz hst hroom hdg hS hf kk
theorem wrSv {S : Type} {w1 : S → va_W} {post : Unit → S → Prop} (hx : p.tables.exec = Jvm.exec) (hb : c.code = cc) (hml : c.maxLocals = nL) (hown : s.vm.findClass own = some m.cls) (hg : ∀ w ∈ gG, w.before args s = true) (hM : Met l y (mw y bts n ret) rm Pc (wq mkV w w1 D post) 0 0 (inW w)) (hl : Cond.methodLink own idx y ∈ gG) (hy : sfacts C y bts n ret k) (hR : rm.frames + 1 ≤ R.frames ∧ 8 + (n + 11) + rm.locals ≤ R.locals) (hz : rm.cells = 0 ∧ rm.slots = 0) (hc : cells ≤ R.cells ∧ slots ≤ R.slots) (hp : PreS s H Pc As) (hn : As.length = k) (hsz : ls.size = nL) (hst : st = As.reverse ++ rest) (hroom : (rest.map fun v => v.category).sum ≤ 8) (hdg : decode cc pc = .ok (.invokestatic idx, 3)) (hS : va_S A0 H0 H locs) (hf : ∀ q, inW w q → A0 q)
    (kk : ∀ (u : S) (H1 : Heap) (locs1 : List Loc), post () u → va_P D vwCl (w1 u) H1 → (∀ q : Nat, q < H.size → ¬ inW w q → H1[q]? = H[q]?) → va_S A0 H0 H1 locs1 → W p l e R s m args below meth c H1 locs1 cells slots Q (F0 m (pc + 3) ls rest)) : W p l e R s m args below meth c H locs cells slots Q (F0 m pc ls st) :=
  wrS hx hb hml hown hg hM hl hy hR hz hc hp hn hsz hst hroom hdg hS hf (fun _ => kk)
theorem wr_z {S : Type} {w1 : S → va_W} {post : Int32 → S → Prop} (hx : p.tables.exec = Jvm.exec) (hb : c.code = cc) {ty : FieldType} (hr : meth.sig.returnType = some ty) (hlocks : meth.locks = false) (hS : va_S (inW w) s.heap H locs) {v : Int32} (hn : narrow ty (.int v) = .int v) (u : S) (hP : va_P D vwCl (w1 u) H) (hdg : decode cc pc = .ok (.ireturn, 1)) (hv : post v u) : W p l e R s m args below meth c H locs 0 0 (MQ below (wq mkI w w1 D post) args s 0 0 (inW w)) (F0 m pc ls [.int v]) :=
  W.zret hx hb hr hn (fun t ht _ => ⟨⟨v, u, rfl, hv, by rw [ht]; exact hP⟩, hS.F ht⟩) hS.2.2 hdg
end WCALLS
theorem nar_1 : narrow .boolean (.int (nI 1)) = .int (nI 1) := rfl
theorem nar_0 : narrow .boolean (.int (nI 0)) = .int (nI 0) := rfl
theorem M_s1 {ws : va_W} {q1 : Nat × va_E} {i1 : Nat} (h1 : ws[i1]? = some q1) : [i1].map (fun i => ws[i]?) = List.map some [q1] := by simp only [List.map, h1]
/-! ===== long arrays ===== -/
section LA
variable {p : Program} {l : Launch} {e : Env} {R : Room} {s : State} {m : MethodId} {args : Array Value} {below : List Frame} {meth : Method} {c : Code} {H : Heap} {locs : List Loc} {cells slots : Nat} {Q : State → Prop}
variable {cc : ByteArray} {pc : Nat} {ls : Array Slot} {rest : List Value} {D : va_G} {cl : List vw_C} {A : Nat → Prop} {a : Nat} {tys : List (ClassId × FieldType)} {ws : va_W} {H0 : Heap}
theorem nv_lald (hexec : p.tables.exec = Jvm.exec) (hb : c.code = cc) (hK : va_K D cl tys s) (hP : va_P D cl ws H) (q0 t0 : Nat) {cA : ClassId} {n : Nat} {f : Nat → Int64} (ha : ws[q0]? = some (a, .inl (cA, n, .inr (.inl f)))) (ht : tys[t0]? = some (cA, .long)) {i : Nat} (hin : i < n) (hn : n < 2147483648) (hdg : decode cc pc = .ok (.laload, 1))
    (kk : W p l e R s m args below meth c H locs cells slots Q (F0 m (pc + 1) ls (.long (f i) :: rest))) : W p l e R s m args below meth c H locs cells slots Q (F0 m pc ls (.int (nI i) :: .ref a :: rest)) :=
  va_lald hexec hb hK hP q0 t0 ha ht (vp_in_nI hin hn) hdg (by rw [nI_clamp (Nat.lt_trans hin hn)]; exact kk)
theorem nv_last (hexec : p.tables.exec = Jvm.exec) (hb : c.code = cc) (hK : va_K D cl tys s) (hP : va_P D cl ws H) (hD : va_D A ws) (hS : va_S A H0 H locs) (q0 t0 : Nat) {cA : ClassId} {n : Nat} {f : Nat → Int64} (ha : ws[q0]? = some (a, .inl (cA, n, .inr (.inl f)))) (ht : tys[t0]? = some (cA, .long)) {i : Nat} {x : Int64} (hin : i < n) (hn : n < 2147483648) (hdg : decode cc pc = .ok (.lastore, 1))
    (kk : ∀ (H1 : Heap) (locs1 : List Loc), va_P D cl (ws.set q0 (a, .inl (cA, n, .inr (.inl (vp_updL f i x))))) H1 → va_D A (ws.set q0 (a, .inl (cA, n, .inr (.inl (vp_updL f i x))))) → va_S A H0 H1 locs1 → W p l e R s m args below meth c H1 locs1 cells slots Q (F0 m (pc + 1) ls rest)) : W p l e R s m args below meth c H locs cells slots Q (F0 m pc ls (.long x :: .int (nI i) :: .ref a :: rest)) :=
  va_last hexec hb hK hP hD hS q0 t0 ha ht (vp_in_nI hin hn) hdg (by rw [nI_clamp (Nat.lt_trans hin hn)]; exact kk)
end LA
/-! ===== both worlds in one: the object's and the law's arrays ===== -/
theorem P_app {D : va_G} {w w2 : va_W} {H : Heap} (h : va_P D vwCl (w ++ w2) H) : va_P D vwCl w H ∧ va_P D vwCl w2 H :=
  ⟨fun k q hq => h k q (by rw [List.getElem?_append_left (List.getElem?_eq_some_iff.mp hq).1]; exact hq), fun k q hq => h (w.length + k) q (by rw [List.getElem?_append_right (Nat.le_add_right _ _), Nat.add_sub_cancel_left]; exact hq)⟩
theorem P_join {D : va_G} {w w2 : va_W} {H : Heap} (h : va_P D vwCl w H) (h2 : va_P D vwCl w2 H) : va_P D vwCl (w ++ w2) H := by
  intro k q hq
  by_cases hk : k < w.length
  · rw [List.getElem?_append_left hk] at hq
    exact h k q hq
  · rw [List.getElem?_append_right (Nat.not_lt.mp hk)] at hq
    exact h2 _ q hq
theorem D_app {A : Nat → Prop} {w w2 : va_W} (h : va_D A (w ++ w2)) : va_D A w ∧ va_D A w2 ∧ ∀ q, inW w q → ¬ inW w2 q := by
  have g1 : ∀ (k : Nat) (q : Nat × va_E), w[k]? = some q → (w ++ w2)[k]? = some q := fun k q hq => by rw [List.getElem?_append_left (List.getElem?_eq_some_iff.mp hq).1]; exact hq
  have g2 : ∀ (k : Nat) (q : Nat × va_E), w2[k]? = some q → (w ++ w2)[w.length + k]? = some q := fun k q hq => by rw [List.getElem?_append_right (Nat.le_add_right _ _), Nat.add_sub_cancel_left]; exact hq
  refine ⟨⟨fun i j p q hp hq e => h.1 i j p q (g1 i p hp) (g1 j q hq) e, fun k q hq => h.2 k q (g1 k q hq)⟩, ⟨fun i j p q hp hq e => ?_, fun k q hq => h.2 _ q (g2 k q hq)⟩, fun q ⟨i, x1, hi⟩ ⟨j, x2, hj⟩ => ?_⟩
  · have := h.1 _ _ p q (g2 i p hp) (g2 j q hq) e
    omega
  · have h1 := h.1 _ _ _ _ (g1 i _ hi) (g2 j _ hj) rfl
    have h2 := (List.getElem?_eq_some_iff.mp hi).1
    omega
theorem wkept {D : va_G} {w wc : va_W} {H H1 : Heap} (hP : va_P D vwCl w H) (hap : ∀ q, inW w q → ¬ inW wc q) (hk : ∀ q : Nat, q < H.size → ¬ inW wc q → H1[q]? = H[q]?) : va_P D vwCl w H1 :=
  fun k q hq => (hP k q hq).kept (hk q.1 (hP k q hq).lt (hap q.1 ⟨k, q.2, hq⟩))
theorem zx_join {A0 : Nat → Prop} {D : va_G} {X Y X1 : va_W} {H H1 : Heap} (hP : va_P D vwCl (X ++ Y) H) (hD : va_D A0 (X ++ Y)) (hP1 : va_P D vwCl X1 H1) (hk : ∀ q : Nat, q < H.size → ¬ inW X q → H1[q]? = H[q]?) : va_P D vwCl (X1 ++ Y) H1 :=
  P_join hP1 (wkept (P_app hP).2 (fun q h1 h2 => (D_app hD).2.2 q h2 h1) hk)
theorem wsets_app {X : va_W} : ∀ (is : List Nat) (xs Y : va_W), wsets (X ++ Y) (is.map (fun i => X.length + i)) xs = X ++ wsets Y is xs
  | [], [], Y => rfl
  | [], x :: xs, Y => rfl
  | i :: is, [], Y => rfl
  | i :: is, x :: xs, Y => by
    show wsets ((X ++ Y).set (X.length + i) x) (is.map (fun i => X.length + i)) xs = X ++ wsets (Y.set i x) is xs
    rw [List.set_append_right _ _ (Nat.le_add_right _ _), Nat.add_sub_cancel_left]
    exact wsets_app is xs _
theorem set_app {X Y : va_W} {i : Nat} {x : Nat × va_E} : (X ++ Y).set (X.length + i) x = X ++ Y.set i x := by
  rw [List.set_append_right _ _ (Nat.le_add_right _ _), Nat.add_sub_cancel_left]
theorem get_app {X Y : va_W} {i : Nat} : (X ++ Y)[X.length + i]? = Y[i]? := by
  rw [List.getElem?_append_right (Nat.le_add_right _ _), Nat.add_sub_cancel_left]
def YW (cI cB : ClassId) (y : Nat → Nat) (wa wc : Nat → Int32) (ga : Nat → Int64) (tt ow : Nat → Int32) : va_W := [(y 0, .inl (cI, 21, .inl wa)), (y 1, .inl (cI, 21, .inl wc)), (y 2, .inl (cB, 30, .inr (.inl ga))), (y 3, .inl (cI, 6, .inl tt)), (y 4, .inl (cI, 6, .inl ow))]
def YA (y : Nat → Nat) : List Nat := [y 0, y 1, y 2, y 3, y 4]
theorem YW_addr {cI : ClassId} {cB : ClassId} {y : Nat → Nat} {wa wc : Nat → Int32} {ga : Nat → Int64} {tt ow : Nat → Int32} : (YW cI cB y wa wc ga tt ow).map (fun q => q.1) = YA y := rfl
theorem XW_len {cI : ClassId} {a : Nat → Nat} {pl n st : Nat} {ik : Int32} {td nd nh : Nat} {bs : Int32} {ktd knd knh : Nat} {kbs : Int32} {pg kd ag pa bo dm dn hh hn kag kpa kbo kdm kdn khh khn wb ps ty : Nat → Int32} : (XW cI a pl n st ik td nd nh bs ktd knd knh kbs pg kd ag pa bo dm dn hh hn kag kpa kbo kdm kdn khh khn wb ps ty).length = 41 := rfl
def ZW (cI cB : ClassId) (a y : Nat → Nat) (pl n st : Nat) (ik : Int32) (td nd nh : Nat) (bs : Int32) (ktd knd knh : Nat) (kbs : Int32) (pg kd ag pa bo dm dn hh hn kag kpa kbo kdm kdn khh khn wb ps ty : Nat → Int32) (wa wc : Nat → Int32) (ga : Nat → Int64) (tt ow : Nat → Int32) : va_W := XW cI a pl n st ik td nd nh bs ktd knd knh kbs pg kd ag pa bo dm dn hh hn kag kpa kbo kdm kdn khh khn wb ps ty ++ YW cI cB y wa wc ga tt ow
theorem ZW_addr {cI : ClassId} {a : Nat → Nat} {pl n st : Nat} {ik : Int32} {td nd nh : Nat} {bs : Int32} {ktd knd knh : Nat} {kbs : Int32} {pg kd ag pa bo dm dn hh hn kag kpa kbo kdm kdn khh khn wb ps ty : Nat → Int32} {cB : ClassId} {y : Nat → Nat} {wa wc : Nat → Int32} {ga : Nat → Int64} {tt ow : Nat → Int32} : (ZW cI cB a y pl n st ik td nd nh bs ktd knd knh kbs pg kd ag pa bo dm dn hh hn kag kpa kbo kdm kdn khh khn wb ps ty wa wc ga tt ow).map (fun q => q.1) = XA a ++ YA y := by
  unfold ZW
  rw [List.map_append, XW_addr, YW_addr]
section ZV
variable {cI : ClassId} {a : Nat → Nat} {pl n st : Nat} {ik : Int32} {td nd nh : Nat} {bs : Int32} {ktd knd knh : Nat} {kbs : Int32} {pg kd ag pa bo dm dn hh hn kag kpa kbo kdm kdn khh khn wb ps ty : Nat → Int32} {cB : ClassId} {y : Nat → Nat} {wa wc : Nat → Int32} {ga : Nat → Int64} {tt ow : Nat → Int32}
theorem P_X {D : va_G} {H : Heap} (h : va_P D vwCl (ZW cI cB a y pl n st ik td nd nh bs ktd knd knh kbs pg kd ag pa bo dm dn hh hn kag kpa kbo kdm kdn khh khn wb ps ty wa wc ga tt ow) H) : va_P D vwCl (XW cI a pl n st ik td nd nh bs ktd knd knh kbs pg kd ag pa bo dm dn hh hn kag kpa kbo kdm kdn khh khn wb ps ty) H := (P_app h).1
theorem D_X {A : Nat → Prop} (h : va_D A (ZW cI cB a y pl n st ik td nd nh bs ktd knd knh kbs pg kd ag pa bo dm dn hh hn kag kpa kbo kdm kdn khh khn wb ps ty wa wc ga tt ow)) : va_D A (XW cI a pl n st ik td nd nh bs ktd knd knh kbs pg kd ag pa bo dm dn hh hn kag kpa kbo kdm kdn khh khn wb ps ty) := (D_app h).1
theorem ZW_g41 : (ZW cI cB a y pl n st ik td nd nh bs ktd knd knh kbs pg kd ag pa bo dm dn hh hn kag kpa kbo kdm kdn khh khn wb ps ty wa wc ga tt ow)[41]? = some (y 0, .inl (cI, 21, .inl wa)) := (get_app (X := (XW cI a pl n st ik td nd nh bs ktd knd knh kbs pg kd ag pa bo dm dn hh hn kag kpa kbo kdm kdn khh khn wb ps ty)) (Y := (YW cI cB y wa wc ga tt ow)) (i := 0)).trans rfl
theorem ZW_g42 : (ZW cI cB a y pl n st ik td nd nh bs ktd knd knh kbs pg kd ag pa bo dm dn hh hn kag kpa kbo kdm kdn khh khn wb ps ty wa wc ga tt ow)[42]? = some (y 1, .inl (cI, 21, .inl wc)) := (get_app (X := (XW cI a pl n st ik td nd nh bs ktd knd knh kbs pg kd ag pa bo dm dn hh hn kag kpa kbo kdm kdn khh khn wb ps ty)) (Y := (YW cI cB y wa wc ga tt ow)) (i := 1)).trans rfl
theorem ZW_g43 : (ZW cI cB a y pl n st ik td nd nh bs ktd knd knh kbs pg kd ag pa bo dm dn hh hn kag kpa kbo kdm kdn khh khn wb ps ty wa wc ga tt ow)[43]? = some (y 2, .inl (cB, 30, .inr (.inl ga))) := (get_app (X := (XW cI a pl n st ik td nd nh bs ktd knd knh kbs pg kd ag pa bo dm dn hh hn kag kpa kbo kdm kdn khh khn wb ps ty)) (Y := (YW cI cB y wa wc ga tt ow)) (i := 2)).trans rfl
theorem ZW_g44 : (ZW cI cB a y pl n st ik td nd nh bs ktd knd knh kbs pg kd ag pa bo dm dn hh hn kag kpa kbo kdm kdn khh khn wb ps ty wa wc ga tt ow)[44]? = some (y 3, .inl (cI, 6, .inl tt)) := (get_app (X := (XW cI a pl n st ik td nd nh bs ktd knd knh kbs pg kd ag pa bo dm dn hh hn kag kpa kbo kdm kdn khh khn wb ps ty)) (Y := (YW cI cB y wa wc ga tt ow)) (i := 3)).trans rfl
theorem ZW_g45 : (ZW cI cB a y pl n st ik td nd nh bs ktd knd knh kbs pg kd ag pa bo dm dn hh hn kag kpa kbo kdm kdn khh khn wb ps ty wa wc ga tt ow)[45]? = some (y 4, .inl (cI, 6, .inl ow)) := (get_app (X := (XW cI a pl n st ik td nd nh bs ktd knd knh kbs pg kd ag pa bo dm dn hh hn kag kpa kbo kdm kdn khh khn wb ps ty)) (Y := (YW cI cB y wa wc ga tt ow)) (i := 4)).trans rfl
theorem ZW_s41 {z : Nat → Int32} : List.set (ZW cI cB a y pl n st ik td nd nh bs ktd knd knh kbs pg kd ag pa bo dm dn hh hn kag kpa kbo kdm kdn khh khn wb ps ty wa wc ga tt ow) 41 (y 0, .inl (cI, 21, .inl z)) = (ZW cI cB a y pl n st ik td nd nh bs ktd knd knh kbs pg kd ag pa bo dm dn hh hn kag kpa kbo kdm kdn khh khn wb ps ty z wc ga tt ow) := (set_app (X := (XW cI a pl n st ik td nd nh bs ktd knd knh kbs pg kd ag pa bo dm dn hh hn kag kpa kbo kdm kdn khh khn wb ps ty)) (Y := (YW cI cB y wa wc ga tt ow)) (i := 0)).trans rfl
theorem ZW_s42 {z : Nat → Int32} : List.set (ZW cI cB a y pl n st ik td nd nh bs ktd knd knh kbs pg kd ag pa bo dm dn hh hn kag kpa kbo kdm kdn khh khn wb ps ty wa wc ga tt ow) 42 (y 1, .inl (cI, 21, .inl z)) = (ZW cI cB a y pl n st ik td nd nh bs ktd knd knh kbs pg kd ag pa bo dm dn hh hn kag kpa kbo kdm kdn khh khn wb ps ty wa z ga tt ow) := (set_app (X := (XW cI a pl n st ik td nd nh bs ktd knd knh kbs pg kd ag pa bo dm dn hh hn kag kpa kbo kdm kdn khh khn wb ps ty)) (Y := (YW cI cB y wa wc ga tt ow)) (i := 1)).trans rfl
theorem ZW_s43 {z : Nat → Int64} : List.set (ZW cI cB a y pl n st ik td nd nh bs ktd knd knh kbs pg kd ag pa bo dm dn hh hn kag kpa kbo kdm kdn khh khn wb ps ty wa wc ga tt ow) 43 (y 2, .inl (cB, 30, .inr (.inl z))) = (ZW cI cB a y pl n st ik td nd nh bs ktd knd knh kbs pg kd ag pa bo dm dn hh hn kag kpa kbo kdm kdn khh khn wb ps ty wa wc z tt ow) := (set_app (X := (XW cI a pl n st ik td nd nh bs ktd knd knh kbs pg kd ag pa bo dm dn hh hn kag kpa kbo kdm kdn khh khn wb ps ty)) (Y := (YW cI cB y wa wc ga tt ow)) (i := 2)).trans rfl
theorem ZW_s44 {z : Nat → Int32} : List.set (ZW cI cB a y pl n st ik td nd nh bs ktd knd knh kbs pg kd ag pa bo dm dn hh hn kag kpa kbo kdm kdn khh khn wb ps ty wa wc ga tt ow) 44 (y 3, .inl (cI, 6, .inl z)) = (ZW cI cB a y pl n st ik td nd nh bs ktd knd knh kbs pg kd ag pa bo dm dn hh hn kag kpa kbo kdm kdn khh khn wb ps ty wa wc ga z ow) := (set_app (X := (XW cI a pl n st ik td nd nh bs ktd knd knh kbs pg kd ag pa bo dm dn hh hn kag kpa kbo kdm kdn khh khn wb ps ty)) (Y := (YW cI cB y wa wc ga tt ow)) (i := 3)).trans rfl
theorem ZW_s45 {z : Nat → Int32} : List.set (ZW cI cB a y pl n st ik td nd nh bs ktd knd knh kbs pg kd ag pa bo dm dn hh hn kag kpa kbo kdm kdn khh khn wb ps ty wa wc ga tt ow) 45 (y 4, .inl (cI, 6, .inl z)) = (ZW cI cB a y pl n st ik td nd nh bs ktd knd knh kbs pg kd ag pa bo dm dn hh hn kag kpa kbo kdm kdn khh khn wb ps ty wa wc ga tt z) := (set_app (X := (XW cI a pl n st ik td nd nh bs ktd knd knh kbs pg kd ag pa bo dm dn hh hn kag kpa kbo kdm kdn khh khn wb ps ty)) (Y := (YW cI cB y wa wc ga tt ow)) (i := 4)).trans rfl
end ZV
theorem lg_same (x : Int64) : lg_cmp x x = 0 := by simp [lg_cmp]
