/-! ===== what holds between two calls of the law ===== -/
def okA (n td : Nat) (ag pa : Nat → Int32) : Prop := (∀ h, h < n → ∃ k : Nat, k ≤ 9 + td ∧ ag h = nI k) ∧ ∀ d h, d < td → h < n → ∃ k : Nat, k ≤ 39 ∧ pa (6 * d + h) = nI k
def okM (n td nd nh : Nat) (ag pa hh : Nat → Int32) : Prop := td ≤ 30 ∧ nd ≤ 6 ∧ nh ≤ 6 ∧ hOK n hh nh ∧ okA n td ag pa
def lI (n st pl td nd nh : Nat) (pg ag pa bo bo2 hh : Nat → Int32) (ik ik2 : Int32) (ks ktd knd knh : Nat) (kag kpa kbo kbo2 khh : Nat → Int32) : Prop :=
  n ≤ 6 ∧ pl ≤ 19 ∧ pgOK pg pl ∧ ks ≤ st ∧ okM n td nd nh ag pa hh ∧ (∀ j, j < n → bo j = bo2 j) ∧ (¬ ik = nI 0 ↔ (¬ ik2 = nI 0 ∧ ks = st)) ∧ (¬ ik = nI 0 → okM n ktd knd knh kag kpa khh ∧ ∀ j, j < n → kbo j = kbo2 j)
theorem num_v40 {k : Int32} {a : Nat} (ha : a ≤ 39) : (numF k (nI a)).toNatClampNeg < 40 ∧ numF k (nI a) = nI (numF k (nI a)).toNatClampNeg := by
  unfold numF
  by_cases h : k = nI 1
  · rw [if_pos h, pk_div (by omega) (by omega) (by omega), nI_clamp (by omega)]
    exact ⟨by omega, rfl⟩
  · rw [if_neg h, nI_clamp (by omega)]
    exact ⟨by omega, rfl⟩
theorem ok_v40 {n td : Nat} {kd ag pa : Nat → Int32} (q : okA n td ag pa) (ht : td ≤ 30) : ∀ h, h < n → v40 (nOf kd ag pa td h) td := by
  intro h h1 d hd
  show (numOn kd ag pa td h d).toNatClampNeg < 40 ∧ numOn kd ag pa td h d = nI (numOn kd ag pa td h d).toNatClampNeg
  unfold numOn ageOn
  by_cases e : d = td
  · rw [if_pos e]
    obtain ⟨k, hk, ek⟩ := q.1 h h1
    rw [ek]
    exact num_v40 (by omega)
  · rw [if_neg e]
    obtain ⟨k, hk, ek⟩ := q.2 d h (by omega) h1
    rw [ek]
    exact num_v40 hk
theorem let_ok {pg : Nat → Int32} {pl : Nat} {x : Int32} (h1 : pl ≤ 19) (h2 : pgOK pg pl) : (letF pg pl x).2.2 ≤ 19 ∧ pgOK (letF pg pl x).2.1 (letF pg pl x).2.2 := by
  unfold letF
  by_cases a : nI 32 ≤ x ∧ x ≤ nI 126
  · rw [if_pos a]
    by_cases b : pl = 19
    · rw [if_pos b]
      exact ⟨h1, h2⟩
    · rw [if_neg b]
      refine ⟨by show pl + 1 ≤ 19; omega, ?_⟩
      obtain ⟨c, c1, c2, ec⟩ := by_of a (by omega) (by omega)
      intro k hk
      have hk : k < pl + 1 := hk
      show upd pg pl x k = nI (upd pg pl x k).toNatClampNeg ∧ 32 ≤ (upd pg pl x k).toNatClampNeg ∧ (upd pg pl x k).toNatClampNeg ≤ 126
      by_cases e : k = pl
      · rw [e, pk_us, ec, nI_clamp (by omega)]
        exact ⟨rfl, c1, c2⟩
      · rw [pk_un e]
        exact h2 k (by omega)
  · rw [if_neg a]
    exact ⟨h1, h2⟩
theorem upd_ok {n i B : Nat} {f : Nat → Int32} (q : ∀ h, h < n → ∃ k : Nat, k ≤ B ∧ f h = nI k) : ∀ h, h < n → ∃ k : Nat, k ≤ B ∧ upd f i (nI 0) h = nI k := by
  intro h h1
  by_cases e : h = i
  · rw [e, pk_us]
    exact ⟨0, Nat.zero_le _, rfl⟩
  · rw [pk_un e]
    exact q h h1
theorem bear_ok {n td h : Nat} {kd ag pa : Nat → Int32} (q : okA n td ag pa) : okA n td (bearF n kd ag h) pa := by
  refine ⟨?_, q.2⟩
  unfold bearF
  by_cases a : lendF n kd h
  · rw [if_pos a]
    exact upd_ok (upd_ok q.1)
  · rw [if_neg a]
    exact upd_ok q.1
theorem born_c {n h : Nat} {kd bo bo2 : Nat → Int32} (e : ∀ j, j < n → bo j = bo2 j) : ∀ j, j < n → bornF n kd bo h j = bornF n kd bo2 h j := by
  intro j hj
  unfold bornF
  by_cases a : lendF n kd h
  · rw [if_pos a, if_pos a]
    by_cases e1 : j = h + 1
    · subst e1
      rw [pk_us, pk_us, e _ hj]
    · rw [pk_un e1, pk_un e1]
      by_cases e2 : j = h
      · subst e2
        rw [pk_us, pk_us, e _ hj]
      · rw [pk_un e2, pk_un e2, e _ hj]
  · rw [if_neg a, if_neg a]
    by_cases e2 : j = h
    · subst e2
      rw [pk_us, pk_us, e _ hj]
    · rw [pk_un e2, pk_un e2, e _ hj]
theorem bir_c {n td : Nat} {kd ag pa bo bo2 : Nat → Int32} {bs x : Int32} (e : ∀ j, j < n → bo j = bo2 j) (q : okA n td ag pa) : (birF n kd ag bo bs x).1 = (birF n kd ag bo2 bs x).1 ∧ (birF n kd ag bo bs x).2.1 = (birF n kd ag bo2 bs x).2.1 ∧ (birF n kd ag bo bs x).2.2.2 = (birF n kd ag bo2 bs x).2.2.2 ∧ (∀ j, j < n → (birF n kd ag bo bs x).2.2.1 j = (birF n kd ag bo2 bs x).2.2.1 j) ∧ okA n td (birF n kd ag bo bs x).2.1 pa := by
  unfold birF
  by_cases a : hIn n x
  · rw [if_pos a, if_pos a]
    by_cases b : mayB (kd x.toNatClampNeg)
    · rw [if_pos b, if_pos b]
      exact ⟨rfl, rfl, rfl, born_c e, bear_ok q⟩
    · rw [if_neg b, if_neg b]
      exact ⟨rfl, rfl, rfl, e, q⟩
  · rw [if_neg a, if_neg a]
    exact ⟨rfl, rfl, rfl, e, q⟩
theorem day_ok {n td : Nat} {kd ag pa : Nat → Int32} (hn6 : n ≤ 6) (q : okA n td ag pa) (ht : td ≤ 30) : (dayF n td kd ag pa).2.2.2 ≤ 30 ∧ okA n (dayF n td kd ag pa).2.2.2 (dayF n td kd ag pa).2.1 (dayF n td kd ag pa).2.2.1 := by
  unfold dayF
  by_cases a : n = 0
  · rw [if_pos a]
    exact ⟨ht, q⟩
  · rw [if_neg a]
    by_cases b : td = 30
    · rw [if_pos b]
      exact ⟨ht, q⟩
    · rw [if_neg b]
      refine ⟨by show td + 1 ≤ 30; omega, ?_, ?_⟩
      · intro h h1
        show ∃ k : Nat, k ≤ 9 + (td + 1) ∧ groF kd ag n h = nI k
        unfold groF nxF
        rw [if_pos h1]
        obtain ⟨k, hk, ek⟩ := q.1 h h1
        by_cases c : kd h = nI 4
        · rw [if_pos c]
          exact ⟨k, by omega, ek⟩
        · rw [if_neg c, ek]
          exact ⟨k + 1, by omega, nI_1 k⟩
      · intro d h hd h1
        have hd : d < td + 1 := hd
        show ∃ k : Nat, k ≤ 39 ∧ paF ag pa td n (6 * d + h) = nI k
        unfold paF
        by_cases e : d = td
        · subst e
          rw [if_pos (by omega), show 6 * d + h - 6 * d = h by omega]
          obtain ⟨k, hk, ek⟩ := q.1 h h1
          exact ⟨k, by omega, ek⟩
        · rw [if_neg (by omega)]
          exact q.2 d h (by omega) h1
theorem deb_ok {n nd : Nat} {dm dn : Nat → Int32} {x y : Int32} (h : nd ≤ 6) : (debF n nd dm dn x y).2.2.2 ≤ 6 := by
  unfold debF
  by_cases a : (nI 1 ≤ x ∧ x ≤ nI 9) ∧ x_in y 99
  · rw [if_pos a]
    by_cases b : n = 0
    · rw [if_pos b]
      exact h
    · rw [if_neg b]
      by_cases c : nd = 6
      · rw [if_pos c]
        exact h
      · rw [if_neg c]
        show nd + 1 ≤ 6
        omega
  · rw [if_neg a]
    exact h
theorem hea_ok {n nh : Nat} {hh hn : Nat → Int32} {x y : Int32} (hn6 : n ≤ 6) (h : nh ≤ 6) (q : hOK n hh nh) : (heaF n nh hh hn x y).2.2.2 ≤ 6 ∧ hOK n (heaF n nh hh hn x y).2.1 (heaF n nh hh hn x y).2.2.2 := by
  unfold heaF
  by_cases a : hIn n x
  · rw [if_pos a]
    by_cases b : x_in y 99
    · rw [if_pos b]
      by_cases c : nh = 6
      · rw [if_pos c]
        exact ⟨h, q⟩
      · rw [if_neg c]
        refine ⟨by show nh + 1 ≤ 6; omega, ?_⟩
        obtain ⟨j, hj, ej⟩ := hIn_of a (by omega)
        intro k hk
        have hk : k < nh + 1 := hk
        show (upd hh nh x k).toNatClampNeg < n ∧ upd hh nh x k = nI (upd hh nh x k).toNatClampNeg
        by_cases e : k = nh
        · rw [e, pk_us, ej, nI_clamp (by omega)]
          exact ⟨hj, rfl⟩
        · rw [pk_un e]
          exact q k (by omega)
    · rw [if_neg b]
      exact ⟨h, q⟩
  · rw [if_neg a]
    exact ⟨h, q⟩
theorem stA_ok {pg : Nat → Int32} {pl h : Nat} (q : stOK pg pl) (qp : pgOK pg pl) (h1 : h < (pl + 1) / 3) : ∃ k : Nat, k ≤ 9 ∧ stA pg h = nI k := by
  have h17 := ft_17 q.2.2
  have g1 := ft_ok q.2.2 (3 * h + 1) (by omega)
  have g2 := (gdX_1 (by omega) (by omega)).mp g1
  obtain ⟨e1, -, -⟩ := qp (3 * h + 1) (by omega)
  unfold stA
  rw [e1, pk_sub g2.1]
  exact ⟨_, by omega, rfl⟩
theorem lg_same (x : Int64) : lg_cmp x x = 0 := by simp [lg_cmp]
/-! the steps of the invariant -/
section LI
variable {n st pl td nd nh : Nat} {pg ag pa bo bo2 hh : Nat → Int32} {ik ik2 : Int32} {ks ktd knd knh : Nat} {kag kpa kbo kbo2 khh : Nat → Int32}
theorem lI.page {pg' : Nat → Int32} {pl' : Nat} (h : lI n st pl td nd nh pg ag pa bo bo2 hh ik ik2 ks ktd knd knh kag kpa kbo kbo2 khh) (h1 : pl' ≤ 19) (h2 : pgOK pg' pl') : lI n st pl' td nd nh pg' ag pa bo bo2 hh ik ik2 ks ktd knd knh kag kpa kbo kbo2 khh :=
  ⟨h.1, h1, h2, h.2.2.2⟩
theorem lI.mom {td' nd' nh' : Nat} {ag' pa' bo' bo2' hh' : Nat → Int32} (h : lI n st pl td nd nh pg ag pa bo bo2 hh ik ik2 ks ktd knd knh kag kpa kbo kbo2 khh) (h1 : okM n td' nd' nh' ag' pa' hh') (h2 : ∀ j, j < n → bo' j = bo2' j) : lI n st pl td' nd' nh' pg ag' pa' bo' bo2' hh' ik ik2 ks ktd knd knh kag kpa kbo kbo2 khh :=
  ⟨h.1, h.2.1, h.2.2.1, h.2.2.2.1, h1, h2, h.2.2.2.2.2.2⟩
theorem lI.street (h : lI n st pl td nd nh pg ag pa bo bo2 hh ik ik2 ks ktd knd knh kag kpa kbo kbo2 khh) (q : stOK pg pl) : lI ((pl + 1) / 3) (st + 1) 0 0 0 0 pg (cpF (stA pg) ag ((pl + 1) / 3)) pa (fun _ => nI 0) (cpF (fun _ => nI 0) bo2 ((pl + 1) / 3)) hh (nI 0) ik2 ks ktd knd knh kag kpa kbo kbo2 khh := by
  obtain ⟨-, hpl, hpg, hks, -, -, -, -⟩ := h
  refine ⟨by omega, by omega, fun k hk => absurd hk (by omega), by omega, ⟨by omega, by omega, by omega, fun k hk => absurd hk (by omega), fun h h1 => ?_, fun d h h1 => absurd h1 (by omega)⟩, fun j hj => (cpF_at (f := fun _ => nI 0) hj).symm, ⟨fun h1 => absurd rfl h1, fun h1 => absurd h1.2 (by omega)⟩, fun h1 => absurd rfl h1⟩
  rw [cpF_at h1]
  obtain ⟨k, hk, ek⟩ := stA_ok q hpg h1
  exact ⟨k, by omega, ek⟩
theorem lI.image (h : lI n st pl td nd nh pg ag pa bo bo2 hh ik ik2 ks ktd knd knh kag kpa kbo kbo2 khh) : lI n st pl td nd nh pg ag pa bo bo2 hh (nI 1) (nI 1) st td nd nh ag pa bo bo2 hh :=
  ⟨h.1, h.2.1, h.2.2.1, Nat.le_refl _, h.2.2.2.2.1, h.2.2.2.2.2.1, ⟨fun q => ⟨q, rfl⟩, fun q => q.1⟩, fun _ => ⟨h.2.2.2.2.1, h.2.2.2.2.2.1⟩⟩
theorem lI.restore (h : lI n st pl td nd nh pg ag pa bo bo2 hh ik ik2 ks ktd knd knh kag kpa kbo kbo2 khh) (q : ¬ ik = nI 0) : lI n st pl ktd knd knh pg kag kpa kbo kbo2 khh ik ik2 ks ktd knd knh kag kpa kbo kbo2 khh :=
  ⟨h.1, h.2.1, h.2.2.1, h.2.2.2.1, (h.2.2.2.2.2.2.2 q).1, (h.2.2.2.2.2.2.2 q).2, h.2.2.2.2.2.2⟩
end LI
/-! both worlds -/
def dX (A0 : Nat → Prop) (a : Nat → Nat) : Prop := ∀ w : va_W, w.map (fun q => q.1) = XA a → va_D A0 w
def dM (A0 : Nat → Prop) (b : Nat → Nat) : Prop := ∀ w : va_W, w.map (fun q => q.1) = MA b → va_D A0 w
def dXM (a b : Nat → Nat) : Prop := ∀ w w2 : va_W, w.map (fun q => q.1) = XA a → w2.map (fun q => q.1) = MA b → ∀ q, inW w q → ¬ inW w2 q
theorem wkept {D : va_G} {w wc : va_W} {H H1 : Heap} (hP : va_P D vwCl w H) (hap : ∀ q, inW w q → ¬ inW wc q) (hk : ∀ q : Nat, q < H.size → ¬ inW wc q → H1[q]? = H[q]?) : va_P D vwCl w H1 :=
  fun k q hq => (hP k q hq).kept (hk q.1 (hP k q hq).lt (hap q.1 ⟨k, q.2, hq⟩))
def lC (p : Program) (s : State) (m : MethodId) (c : Code) (args : Array Value) (D : va_G) (cI cB : ClassId) (aS aV : Nat) (a b : Nat → Nat) (q L : Nat) (xs : Nat → Int32) : Prop :=
  p.tables.exec = Jvm.exec ∧ c.code = cL_law ∧ c.maxLocals = 4 ∧ s.vm.findClass RL = some m.cls ∧ (∀ w ∈ gG, w.before args s = true) ∧ KP D cI cB aS s ∧ ES aS aV (fun r => s.heap.size ≤ r) s s.heap ∧ va_X q L xs s s.heap ∧ q < s.heap.size ∧ L ≤ 2048 ∧ dX (fun r => s.heap.size ≤ r) a ∧ dM (fun r => s.heap.size ≤ r) b ∧ dXM a b
def lJ (D : va_G) (cI cB : ClassId) (a b : Nat → Nat) (s : State) (i : Nat) (H : Heap) (locs : List Loc) : Prop :=
  ∃ (pl n st : Nat) (ik : Int32) (td nd nh : Nat) (bs : Int32) (ktd knd knh : Nat) (kbs : Int32) (pg kd ag pa bo dm dn hh hn kag kpa kbo kdm kdn khh khn wb ps ty bo2 kbo2 sv : Nat → Int32) (sd : Int64) (ik2 : Int32) (ks : Nat) (hf : Int64), st ≤ i ∧ lI n st pl td nd nh pg ag pa bo bo2 hh ik ik2 ks ktd knd knh kag kpa kbo kbo2 khh ∧ va_P D vwCl (XW cI a pl n st ik td nd nh bs ktd knd knh kbs pg kd ag pa bo dm dn hh hn kag kpa kbo kdm kdn khh khn wb ps ty) H ∧ va_P D vwCl (MW cI cB b st n td nd nh pl bs kd ag bo2 pa dm dn hh hn pg sv sd ik2 ks ktd knd knh kbs kag kbo2 kpa kdm kdn khh khn hf) H ∧ va_S (fun r => s.heap.size ≤ r) s.heap H locs
theorem lJ.of {D : va_G} {cI cB : ClassId} {a b : Nat → Nat} {s : State} {i : Nat} {H : Heap} {locs : List Loc} {pl n st : Nat} {ik : Int32} {td nd nh : Nat} {bs : Int32} {ktd knd knh : Nat} {kbs : Int32} {pg kd ag pa bo dm dn hh hn kag kpa kbo kdm kdn khh khn wb ps ty bo2 kbo2 sv : Nat → Int32} {sd : Int64} {ik2 : Int32} {ks : Nat} {hf : Int64} (h3 : va_P D vwCl (XW cI a pl n st ik td nd nh bs ktd knd knh kbs pg kd ag pa bo dm dn hh hn kag kpa kbo kdm kdn khh khn wb ps ty) H) (h4 : va_P D vwCl (MW cI cB b st n td nd nh pl bs kd ag bo2 pa dm dn hh hn pg sv sd ik2 ks ktd knd knh kbs kag kbo2 kpa kdm kdn khh khn hf) H) (h5 : va_S (fun r => s.heap.size ≤ r) s.heap H locs) (h1 : st ≤ i) (h2 : lI n st pl td nd nh pg ag pa bo bo2 hh ik ik2 ks ktd knd knh kag kpa kbo kbo2 khh) : lJ D cI cB a b s i H locs :=
  ⟨pl, n, st, ik, td, nd, nh, bs, ktd, knd, knh, kbs, pg, kd, ag, pa, bo, dm, dn, hh, hn, kag, kpa, kbo, kdm, kdn, khh, khn, wb, ps, ty, bo2, kbo2, sv, sd, ik2, ks, hf, h1, h2, h3, h4, h5⟩
theorem lJ.le {D : va_G} {cI cB : ClassId} {a b : Nat → Nat} {s : State} {i j : Nat} {H : Heap} {locs : List Loc} (h : lJ D cI cB a b s i H locs) (hij : i ≤ j) : lJ D cI cB a b s j H locs := by
  obtain ⟨pl, n, st, ik, td, nd, nh, bs, ktd, knd, knh, kbs, pg, kd, ag, pa, bo, dm, dn, hh, hn, kag, kpa, kbo, kdm, kdn, khh, khn, wb, ps, ty, bo2, kbo2, sv, sd, ik2, ks, hf, h1, h2, h3, h4, h5⟩ := h
  exact ⟨pl, n, st, ik, td, nd, nh, bs, ktd, knd, knh, kbs, pg, kd, ag, pa, bo, dm, dn, hh, hn, kag, kpa, kbo, kdm, kdn, khh, khn, wb, ps, ty, bo2, kbo2, sv, sd, ik2, ks, hf, Nat.le_trans h1 hij, h2, h3, h4, h5⟩
