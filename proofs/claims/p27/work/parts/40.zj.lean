/-! ===== the law: what holds at its loops ===== -/
def dZ (A0 : Nat → Prop) (a y : Nat → Nat) : Prop := ∀ w : va_W, w.map (fun q => q.1) = XA a ++ YA y → va_D A0 w
def zC (p : Program) (s : State) (m : MethodId) (c : Code) (args : Array Value) (D : va_G) (cI cB : ClassId) (aS aV : Nat) (A : Nat → Prop) (a y : Nat → Nat) (q L : Nat) (xs : Nat → Int32) : Prop :=
  p.tables.exec = Jvm.exec ∧ c.code = cL_law ∧ c.maxLocals = 25 ∧ s.vm.findClass RL = some m.cls ∧ (∀ w ∈ gG, w.before args s = true) ∧ KP D cI cB aS s ∧ ES aS aV A s s.heap ∧ va_X q L xs s s.heap ∧ q < s.heap.size ∧ ¬ A q ∧ L ≤ 260 ∧ dZ A a y
/-- within a trip -/
def zJ (D : va_G) (cI cB : ClassId) (A : Nat → Prop) (a y : Nat → Nat) (s : State) (n nd : Nat) (owed : Int32) (H : Heap) (locs : List Loc) : Prop :=
  ∃ (st : Nat) (ik : Int32) (td nh : Nat) (bs : Int32) (ktd knd knh : Nat) (kbs : Int32) (pg kd ag pa bo dm dn hh hn kag kpa kbo kdm kdn khh khn wb ps ty wa wc : Nat → Int32) (ga : Nat → Int64) (tt ow : Nat → Int32), zI n td bs kd ag pa bo wa ga ∧ zD nd dm dn tt ow ∧ owed = sm dm nd ∧ va_P D vwCl (ZW cI cB a y 0 n st ik td nd nh bs ktd knd knh kbs pg kd ag pa bo dm dn hh hn kag kpa kbo kdm kdn khh khn wb ps ty wa wc ga tt ow) H ∧ va_S A s.heap H locs
theorem zJ.of {D : va_G} {cI cB : ClassId} {A : Nat → Prop} {a y : Nat → Nat} {s : State} {n nd : Nat} {owed : Int32} {H : Heap} {locs : List Loc} {st : Nat} {ik : Int32} {td nh : Nat} {bs : Int32} {ktd knd knh : Nat} {kbs : Int32} {pg kd ag pa bo dm dn hh hn kag kpa kbo kdm kdn khh khn wb ps ty wa wc : Nat → Int32} {ga : Nat → Int64} {tt ow : Nat → Int32} (h1 : zI n td bs kd ag pa bo wa ga) (h2 : zD nd dm dn tt ow) (h3 : owed = sm dm nd) (h4 : va_P D vwCl (ZW cI cB a y 0 n st ik td nd nh bs ktd knd knh kbs pg kd ag pa bo dm dn hh hn kag kpa kbo kdm kdn khh khn wb ps ty wa wc ga tt ow) H) (h5 : va_S A s.heap H locs) : zJ D cI cB A a y s n nd owed H locs :=
  ⟨st, ik, td, nh, bs, ktd, knd, knh, kbs, pg, kd, ag, pa, bo, dm, dn, hh, hn, kag, kpa, kbo, kdm, kdn, khh, khn, wb, ps, ty, wa, wc, ga, tt, ow, h1, h2, h3, h4, h5⟩
/-- between trips -/
def zT (D : va_G) (cI cB : ClassId) (A : Nat → Prop) (a y : Nat → Nat) (s : State) (trip : Nat) (H : Heap) (locs : List Loc) : Prop :=
  ∃ (n st : Nat) (ik : Int32) (td nh : Nat) (bs : Int32) (ktd knd knh : Nat) (kbs : Int32) (pg kd ag pa bo dm dn hh hn kag kpa kbo kdm kdn khh khn wb ps ty wa wc : Nat → Int32) (ga : Nat → Int64) (tt ow : Nat → Int32), (¬ trip = 0 → zI n td bs kd ag pa bo wa ga) ∧ va_P D vwCl (ZW cI cB a y 0 n st ik td 0 nh bs ktd knd knh kbs pg kd ag pa bo dm dn hh hn kag kpa kbo kdm kdn khh khn wb ps ty wa wc ga tt ow) H ∧ va_S A s.heap H locs
theorem zT.of {D : va_G} {cI cB : ClassId} {A : Nat → Prop} {a y : Nat → Nat} {s : State} {trip : Nat} {H : Heap} {locs : List Loc} {n st : Nat} {ik : Int32} {td nh : Nat} {bs : Int32} {ktd knd knh : Nat} {kbs : Int32} {pg kd ag pa bo dm dn hh hn kag kpa kbo kdm kdn khh khn wb ps ty wa wc : Nat → Int32} {ga : Nat → Int64} {tt ow : Nat → Int32} (h1 : ¬ trip = 0 → zI n td bs kd ag pa bo wa ga) (h4 : va_P D vwCl (ZW cI cB a y 0 n st ik td 0 nh bs ktd knd knh kbs pg kd ag pa bo dm dn hh hn kag kpa kbo kdm kdn khh khn wb ps ty wa wc ga tt ow) H) (h5 : va_S A s.heap H locs) : zT D cI cB A a y s trip H locs :=
  ⟨n, st, ik, td, nh, bs, ktd, knd, knh, kbs, pg, kd, ag, pa, bo, dm, dn, hh, hn, kag, kpa, kbo, kdm, kdn, khh, khn, wb, ps, ty, wa, wc, ga, tt, ow, h1, h4, h5⟩
def owS (n : Nat) (wa ow tt : Nat → Int32) (nd k : Nat) : Int32 := sm (fun h => owF n (nwF wa) ow tt nd h) k
def unS (n : Nat) (wa : Nat → Int32) (k : Nat) : Nat := cn (fun h => decide (hwF n (nwF wa) (nwF wa h) = nI h)) k
theorem unS_lt {n k : Nat} {wa : Nat → Int32} : unS n wa k ≤ k := cn_le _ _
theorem ow_end {n nd k j : Nat} {wa ow tt : Nat → Int32} (hn : n ≤ 6) (hk : k < n) (h : ¬ hwF n (nwF wa) (nwF wa k) = nI k) : owF n (nwF wa) ow tt nd k = sm (owP n (nwF wa) ow tt k) j :=
  ((owP_F (ow := ow) (tt := tt) (nd := nd)).symm.trans (sm_0 (fun q _ => owP_0 hn hk h))).trans (sm_0 (fun q _ => owP_0 hn hk h)).symm
theorem wh_1 {wa : Nat → Int32} {k j : Nat} {x : Int32} (h : ¬ wa (3 + 3 * k) = nI 4) : whW wa k x j = decide (numF (wa (3 + 3 * k)) (wa (3 + 3 * k + 1) + nI j) = x) := by
  unfold whW agF
  rw [if_neg h]
theorem wh_2 {wa : Nat → Int32} {k j : Nat} {x : Int32} (h : wa (3 + 3 * k) = nI 4) : whW wa k x j = decide (numF (wa (3 + 3 * k)) (wa (3 + 3 * k + 1) + nI 0) = x) := by
  unfold whW agF
  rw [if_pos h, show wa (3 + 3 * k + 1) + nI 0 = wa (3 + 3 * k + 1) from Int32.add_zero _]
theorem yb_f {n k c : Nat} {w : Nat → Int32} (e : w (3 + 3 * k) = nI c) (h : ¬ mayB (nI c)) : w = ybW n w k := (if_neg (by rw [e]; exact h)).symm
theorem yb_t {n k c : Nat} {w : Nat → Int32} (e : w (3 + 3 * k) = nI c) (h : mayB (nI c)) : beW n w k = ybW n w k := (if_pos (by rw [e]; exact h)).symm
theorem hOut {n : Nat} : ¬ hIn n (nI n) := fun h => Int32.lt_irrefl h.2
theorem xOut {w k : Nat} (h : k < w) (hw : w < 2147483648) : ¬ x_in (nI w) k := fun q => absurd ((nI_leI (a := w) (b := k) (by omega) (by omega)).mp q.2) (by omega)
theorem neg1 {x : Int32} (h : x = -1) : ¬ nI 0 ≤ x := by
  rw [h]
  decide
theorem rf_ab1 {n : Nat} {kd ag bo dm dn : Nat → Int32} {nd : Nat} {w : Int32} : abtF n kd ag bo dm dn nd (nI n) w = -101 := abt_1 hOut
theorem rf_ab2 {n : Nat} {kd ag bo dm dn : Nat → Int32} {nd : Nat} (h : 0 < n) (h6 : n ≤ 6) : abtF n kd ag bo dm dn nd (nI 0) (nI 6) = -102 := abt_2 h h6 (xOut (by omega) (by omega))
theorem rf_as1 {n : Nat} {kd : Nat → Int32} {w : Int32} : asF n kd (nI n) w = -101 := as_1 hOut
theorem rf_as2 {n : Nat} {kd : Nat → Int32} (h : 0 < n) (h6 : n ≤ 6) : asF n kd (nI 0) (nI 5) = -102 := as_2 h h6 (xOut (by omega) (by omega))
theorem rf_th1 {n td : Nat} {kd ag pa : Nat → Int32} {d : Int32} : thF n td kd ag pa (nI n) d = -101 := if_neg (fun q => hOut q.1)
theorem rf_th2 {n td : Nat} {kd ag pa : Nat → Int32} {x : Int32} (h : td ≤ 30) : thF n td kd ag pa x (nI (td + 1)) = -101 := if_neg (fun q => xOut (k := td) (w := td + 1) (by omega) (by omega) ⟨q.2.2.1, q.2.2.2⟩)
theorem rf_th3 {n td : Nat} {kd ag pa : Nat → Int32} {x : Int32} : thF n td kd ag pa x (-1) = -101 := if_neg (fun q => neg1 rfl q.2.2.1)
theorem rf_go {n td : Nat} {kd ag pa : Nat → Int32} {x : Int32} (h : td ≤ 30) : goF n td kd ag pa x (nI (td + 1)) = -101 := if_neg (fun q => xOut (k := td) (w := td + 1) (by omega) (by omega) ⟨q.2.1, q.2.2⟩)
theorem rf_d1 {n nd : Nat} {dm dn : Nat → Int32} {y : Int32} : debF n nd dm dn (nI 0) y = (-102, dm, dn, nd) := if_neg (fun q => absurd q.1.1 (by decide))
theorem rf_d2 {n nd : Nat} {dm dn : Nat → Int32} {y : Int32} : debF n nd dm dn (nI 10) y = (-102, dm, dn, nd) := if_neg (fun q => absurd q.1.2 (by decide))
theorem rf_d3 {n nd : Nat} {dm dn : Nat → Int32} {x : Int32} : debF n nd dm dn x (nI 100) = (-102, dm, dn, nd) := if_neg (fun q => absurd q.2.2 (by decide))
theorem rf_d4 {n nd : Nat} {dm dn : Nat → Int32} {x : Int32} : debF n nd dm dn x (-1) = (-102, dm, dn, nd) := if_neg (fun q => neg1 rfl q.2.1)
theorem rf_w1 {n : Nat} {kd ag : Nat → Int32} {y : Int32} : whnF n kd ag (nI n) y = -101 := if_neg hOut
theorem rf_w2 {n td : Nat} {bs : Int32} {kd ag pa bo wa : Nat → Int32} {ga : Nat → Int64} (h : zI n td bs kd ag pa bo wa ga) : whnF n kd ag (nI 0) (-1) = -1 := by
  have h0 : 0 < n := by have := h.1; omega
  rw [whn_ok h0 h.2.1]
  obtain ⟨c, a9, c4, a39, e1, -, e3, -, -⟩ := h.2.2.2.2.2.2.1 0 h0
  have ht := h.2.2.1
  unfold whF
  refine ff_no (fun i hi => decide_eq_false ?_)
  rw [e1, e3]
  have ex : ∃ b : Nat, b < 1000 ∧ agF (nI c) (nI a9) i = nI b := by
    unfold agF
    split
    · exact ⟨a9, by omega, rfl⟩
    · exact ⟨a9 + i, by omega, nI_add a9 i⟩
  obtain ⟨b, hb, eb⟩ := ex
  rw [eb]
  have ey : ∃ d : Nat, d < 1000 ∧ numF (nI c) (nI b) = nI d := by
    unfold numF
    split
    · rw [pk_div (by omega) (by omega) (by omega)]
      exact ⟨b / 2, by omega, rfl⟩
    · exact ⟨b, hb, rfl⟩
  obtain ⟨d, hd, ed⟩ := ey
  rw [ed]
  intro q
  exact neg1 q (nI_pos' (by omega))
theorem rf_y1 {n : Nat} {kd ag : Nat → Int32} {x w : Int32} : yrF n kd ag (nI 0) x w = -102 := if_neg (fun q => absurd q.1.1 (by decide))
theorem rf_y2 {n : Nat} {kd ag : Nat → Int32} {x w : Int32} : yrF n kd ag (nI 61) x w = -102 := if_neg (fun q => absurd q.1.2 (by decide))
theorem rf_y3 {n : Nat} {kd ag : Nat → Int32} {k w : Int32} : yrF n kd ag k (-1) w = -102 := if_neg (fun q => absurd q.2.1 (by decide))
theorem rf_y4 {n : Nat} {kd ag : Nat → Int32} {k x : Int32} : yrF n kd ag k x (nI 3) = -102 := if_neg (fun q => absurd q.2.2.2 (by decide))
theorem deb_1 {n nd m9 d9 : Nat} {dm dn : Nat → Int32} (h : 0 < n) (h1 : 1 ≤ m9) (h2 : m9 ≤ 9) (h3 : d9 ≤ 12) (hn : nd = 6) : debF n nd dm dn (nI m9) (nI d9) = (-104, dm, dn, nd) := by
  unfold debF
  rw [if_pos ⟨by_nI h1 h2 (by omega), x_in_nI (by omega) (by omega)⟩, if_neg (by omega), if_pos hn]
theorem deb_2 {n nd m9 d9 : Nat} {dm dn : Nat → Int32} (h : 0 < n) (h1 : 1 ≤ m9) (h2 : m9 ≤ 9) (h3 : d9 ≤ 12) (hn : ¬ nd = 6) : debF n nd dm dn (nI m9) (nI d9) = (nI (nd + 1), upd dm nd (nI m9), upd dn nd (nI d9), nd + 1) := by
  unfold debF
  rw [if_pos ⟨by_nI h1 h2 (by omega), x_in_nI (by omega) (by omega)⟩, if_neg (by omega), if_neg hn]
theorem zD.s {nd : Nat} {dm dn tt ow : Nat → Int32} {x z : Int32} (h : zD nd dm dn tt ow) (hn : ¬ nd = 6) : zD (nd + 1) (upd dm nd x) (upd dn nd z) (upd tt nd z) (upd ow nd x) := by
  have h0 := h.1
  refine ⟨by omega, fun j hj => ?_, fun j hj => ?_⟩
  · by_cases e : j = nd
    · rw [e, pk_us, pk_us]
    · rw [pk_un e, pk_un e]; exact h.2.1 j (by omega)
  · by_cases e : j = nd
    · rw [e, pk_us, pk_us]
    · rw [pk_un e, pk_un e]; exact h.2.2 j (by omega)
theorem ow_s {nd : Nat} {dm : Nat → Int32} {x : Int32} : sm dm nd + x = sm (upd dm nd x) (nd + 1) := by
  simp only [sm]
  rw [pk_us, sm_c (f := upd dm nd x) (g := dm) (fun j hj => pk_un (by omega))]
theorem zD.o {dm dn tt ow : Nat → Int32} : zD 0 dm dn tt ow := ⟨by omega, fun j hj => absurd hj (by omega), fun j hj => absurd hj (by omega)⟩
