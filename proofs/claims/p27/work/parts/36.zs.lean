/-! ===== what ties the object and the law's rows ===== -/
def zI (n td : Nat) (bs : Int32) (kd ag pa bo wa : Nat → Int32) (ga : Nat → Int64) : Prop :=
  2 ≤ n ∧ n ≤ 6 ∧ td ≤ 30 ∧ wa 0 = nI n ∧ wa 1 = nI td ∧ wa 2 = bs ∧
  (∀ k, k < n → ∃ c a9 : Nat, c ≤ 4 ∧ a9 ≤ 9 + td ∧ kd k = nI c ∧ wa (3 + 3 * k) = nI c ∧ ag k = nI a9 ∧ wa (4 + 3 * k) = nI a9 ∧ bo k = wa (5 + 3 * k)) ∧
  (∀ d k, d < td → k < n → ∃ a9 : Nat, a9 ≤ 39 ∧ pa (6 * d + k) = nI a9 ∧ gaF ga d k = nI a9)
section ZI
variable {n td : Nat} {bs : Int32} {kd ag pa bo wa : Nat → Int32} {ga : Nat → Int64}
theorem zI.k (h : zI n td bs kd ag pa bo wa ga) : ∀ j, j < n → kd j = wa (3 + 3 * j) := fun j hj => by
  obtain ⟨c, a9, -, -, e1, e2, -, -, -⟩ := h.2.2.2.2.2.2.1 j hj
  rw [e1, e2]
theorem zI.g (h : zI n td bs kd ag pa bo wa ga) : ∀ j, j < n → ag j = wa (4 + 3 * j) := fun j hj => by
  obtain ⟨c, a9, -, -, -, -, e1, e2, -⟩ := h.2.2.2.2.2.2.1 j hj
  rw [e1, e2]
theorem zI.v (h : zI n td bs kd ag pa bo wa ga) : ∀ j, j < n → nmF kd ag j = nwF wa j := fun j hj => by
  unfold nmF nwF
  rw [h.k j hj, h.g j hj]
theorem zI.t (h : zI n td bs kd ag pa bo wa ga) {d : Nat} (hd : d ≤ td) : ∀ j, j < n → numOn kd ag pa td j d = tnF wa ga td j d := fun j hj => by
  unfold numOn tnF ageOn
  rw [h.k j hj]
  by_cases e : d = td
  · rw [if_pos e, if_pos e, h.g j hj]
  · rw [if_neg e, if_neg e]
    obtain ⟨a9, -, e1, e2⟩ := h.2.2.2.2.2.2.2 d j (by omega) hj
    rw [e1, e2]
theorem zI.tt (h : zI n td bs kd ag pa bo wa ga) : ∀ j, tnF wa ga td j td = nwF wa j := fun j => by
  unfold tnF nwF
  rw [if_pos rfl]
end ZI
def bsW (k : Nat) (f : Nat → Int32) : Nat → (Nat → Int32)
  | 0 => f
  | i + 1 => upd (bsW k f i) (5 + 3 * k + 3 * i) (bsW k f i (5 + 3 * k + 3 * i) + nI 1)
theorem bsW_n {k j : Nat} {f : Nat → Int32} (h : ¬ j % 3 = 2 ∨ j < 5) : ∀ {i : Nat}, bsW k f i j = f j
  | 0 => rfl
  | i + 1 => by
    show upd (bsW k f i) (5 + 3 * k + 3 * i) _ j = f j
    rw [pk_un (by omega), bsW_n h]
theorem bsW_1 {k j : Nat} {f : Nat → Int32} : bsW k f 1 (5 + 3 * j) = if j = k then f (5 + 3 * k) + nI 1 else f (5 + 3 * j) := by
  show upd f (5 + 3 * k + 3 * 0) (f (5 + 3 * k + 3 * 0) + nI 1) (5 + 3 * j) = _
  by_cases h : j = k
  · rw [if_pos h, h]
    exact pk_us
  · rw [if_neg h, pk_un (by omega)]
theorem bsW_2 {k j : Nat} {f : Nat → Int32} : bsW k f 2 (5 + 3 * j) = if j = k + 1 then f (5 + 3 * (k + 1)) + nI 1 else bsW k f 1 (5 + 3 * j) := by
  show upd (bsW k f 1) (5 + 3 * k + 3 * 1) (bsW k f 1 (5 + 3 * k + 3 * 1) + nI 1) (5 + 3 * j) = _
  rw [show 5 + 3 * k + 3 * 1 = 5 + 3 * (k + 1) by omega]
  by_cases h : j = k + 1
  · rw [if_pos h, h, pk_us, bsW_1, if_neg (by omega)]
  · rw [if_neg h, pk_un (by omega)]
theorem zI.bear {n td k m : Nat} {bs : Int32} {kd ag pa bo wa : Nat → Int32} {ga : Nat → Int64} (h : zI n td bs kd ag pa bo wa ga) (hk : k < n) (hm : m = if lnW n wa k then 2 else 1) : zI n td (bs + nI 1) kd (bearF n kd ag k) pa (bornF n kd bo k) (upd (bsW k (beW n wa k) m) 2 (bsW k (beW n wa k) m 2 + nI 1)) ga := by
  obtain ⟨h2, h6, ht, w0, w1, w2, hh, hp⟩ := id h
  have hb := beW_g (k := k) h.k h.g
  have hbo : ∀ j, j < n → bo j = wa (5 + 3 * j) := fun j hj => by
    obtain ⟨c, a9, -, -, -, -, -, -, e⟩ := hh j hj
    exact e
  refine ⟨h2, h6, ht, ?_, ?_, ?_, fun j hj => ?_, hp⟩
  · rw [pk_un (by omega), bsW_n (by omega), beW_n (by omega), w0]
  · rw [pk_un (by omega), bsW_n (by omega), beW_n (by omega), w1]
  · rw [pk_us, bsW_n (by omega), beW_n (by omega), w2]
  · obtain ⟨c, a9, c4, a39, e1, e2, e3, e4, e5⟩ := hh j hj
    have hage : ∃ b9 : Nat, b9 ≤ 9 + td ∧ bearF n kd ag k j = nI b9 := by
      have key : ∀ (f : Nat → Int32) (i : Nat), (∃ b9 : Nat, b9 ≤ 9 + td ∧ f j = nI b9) → ∃ b9 : Nat, b9 ≤ 9 + td ∧ upd f i (nI 0) j = nI b9 := fun f i ⟨b9, q1, q2⟩ => by
        by_cases hji : j = i
        · rw [hji, pk_us]; exact ⟨0, by omega, rfl⟩
        · rw [pk_un hji]; exact ⟨b9, q1, q2⟩
      by_cases hl : lendF n kd k
      · rw [bear_t hl]
        exact key _ _ (key _ _ ⟨a9, a39, e3⟩)
      · rw [bear_f hl]
        exact key _ _ ⟨a9, a39, e3⟩
    obtain ⟨b9, q1, q2⟩ := hage
    refine ⟨c, b9, c4, q1, e1, ?_, q2, ?_, ?_⟩
    · rw [pk_un (by omega), bsW_n (by omega), beW_n (by omega), e2]
    · rw [pk_un (by omega), bsW_n (by omega), ← hb j hj, q2]
    · rw [pk_un (by omega)]
      unfold bornF
      by_cases hl : lendF n kd k
      · rw [if_pos hl, hm, if_pos ((ln_iff h.k).mp hl), bsW_2]
        by_cases hj1 : j = k + 1
        · rw [if_pos hj1, hj1, pk_us, beW_n (by omega), hbo _ hl.1]
        · rw [if_neg hj1, pk_un hj1, bsW_1]
          by_cases hjk : j = k
          · rw [if_pos hjk, hjk, pk_us, beW_n (by omega), hbo _ hk]
          · rw [if_neg hjk, pk_un hjk, beW_n (by omega), e5]
      · rw [if_neg hl, hm, if_neg (fun q => hl ((ln_iff h.k).mpr q)), bsW_1]
        by_cases hjk : j = k
        · rw [if_pos hjk, hjk, pk_us, beW_n (by omega), hbo _ hk]
        · rw [if_neg hjk, pk_un hjk, beW_n (by omega), e5]
theorem zI.day {n td : Nat} {bs : Int32} {kd ag pa bo wa : Nat → Int32} {ga : Nat → Int64} (h : zI n td bs kd ag pa bo wa ga) (ht : ¬ td = 30) : zI n (td + 1) bs kd (groF kd ag n) (paF ag pa td n) bo (upd (psF wa n) 1 (nI (td + 1))) (gbF ga wa td n) := by
  obtain ⟨h2, h6, ht0, w0, w1, w2, hh, hp⟩ := id h
  refine ⟨h2, h6, by omega, ?_, pk_us, ?_, fun j hj => ?_, fun d k hd hk => ?_⟩
  · rw [pk_un (by omega), psF_n (by omega), w0]
  · rw [pk_un (by omega), psF_n (by omega), w2]
  · obtain ⟨c, a9, c4, a39, e1, e2, e3, e4, e5⟩ := hh j hj
    have ex : ∃ b9 : Nat, b9 ≤ 9 + (td + 1) ∧ nxF (nI c) (nI a9) = nI b9 := by
      unfold nxF
      by_cases q : nI c = nI 4
      · rw [if_pos q]; exact ⟨a9, by omega, rfl⟩
      · rw [if_neg q]; exact ⟨a9 + 1, by omega, nI_1 a9⟩
    obtain ⟨b9, q1, q2⟩ := ex
    refine ⟨c, b9, c4, q1, e1, ?_, ?_, ?_, ?_⟩
    · rw [pk_un (by omega), psF_k, e2]
    · unfold groF
      rw [if_pos hj, e1, e3, q2]
    · rw [pk_un (by omega), psF_g hj, e2, e4, q2]
    · rw [pk_un (by omega), psF_b, e5]
  · unfold paF
    by_cases hdt : d = td
    · subst hdt
      obtain ⟨c, a9, c4, a39, e1, e2, e3, e4, e5⟩ := hh k hk
      rw [if_pos (by omega), show 6 * d + k - 6 * d = k by omega]
      have ha : ∀ j, j < n → ∃ b9 : Nat, b9 < 128 ∧ wa (4 + 3 * j) = nI b9 := fun j hj => by
        obtain ⟨c, a9, -, a39, -, -, -, e4, -⟩ := hh j hj
        exact ⟨a9, by omega, e4⟩
      have hg := gaF_ok (ga := ga) (td := d) (a := fun j => (wa (4 + 3 * j)).toNatClampNeg) h6 hk (fun j hj => by
        obtain ⟨b9, q1, q2⟩ := ha j hj
        show (wa (4 + 3 * j)).toNatClampNeg < 128 ∧ wa (4 + 3 * j) = nI (wa (4 + 3 * j)).toNatClampNeg
        rw [q2, nI_clamp (by omega)]
        exact ⟨q1, rfl⟩)
      refine ⟨a9, by omega, e3, ?_⟩
      rw [hg]
      show nI (wa (4 + 3 * k)).toNatClampNeg = nI a9
      rw [e4, nI_clamp (by omega)]
    · rw [if_neg (by omega)]
      obtain ⟨a9, q1, q2, q3⟩ := hp d k (by omega) hk
      refine ⟨a9, q1, q2, ?_⟩
      unfold gaF at q3 ⊢
      rw [gbF_n hdt]
      exact q3
theorem zI_street {x z : Nat} {kd ag pa pg wa : Nat → Int32} {ga : Nat → Int64} : zI (sN x) 0 (nI 0) (cpF (stK (pgL x z pg (sN x))) kd (sN x)) (cpF (stA (pgL x z pg (sN x))) ag (sN x)) pa (fun _ => nI 0) (sW x z wa (sN x)) ga := by
  have hn := sN_6 (x := x)
  refine ⟨hn.1, hn.2, by omega, sW_0, sW_1, sW_2, fun k hk => ?_, fun d k hd => absurd hd (by omega)⟩
  obtain ⟨q1, q2, q3⟩ := sW_h (x := x) (z := z) (wa := wa) hk
  have hpl : plL (sN x) = 3 * sN x - 1 := plL_s (by omega)
  have hkd : stK (pgL x z pg (sN x)) k = nI (sk x k) := by
    unfold stK
    rw [pgL_c (by omega)]
    unfold pgV
    rw [if_pos (by omega), show 3 * k / 3 = k by omega, (kL_ok _ sk_lt).1]
  have hag : stA (pgL x z pg (sN x)) k = nI (sa z k) := by
    unfold stA
    rw [pgL_ok (by omega)]
    unfold pgV
    rw [if_neg (by omega), if_pos (by omega), show (3 * k + 1) / 3 = k by omega, pk_sub (by omega), show 48 + sa z k - 48 = sa z k by omega]
  refine ⟨sk x k, sa z k, sk_lt, by have := sa_lt (z := z) (i := k); omega, ?_, q1, ?_, q2, q3.symm⟩
  · rw [cpF_at hk, hkd]
  · rw [cpF_at hk, hag]
/-! ===== the object's answers, in the law's numbers ===== -/
def zD (nd : Nat) (dm dn tt ow : Nat → Int32) : Prop := nd ≤ 6 ∧ (∀ j, j < nd → dm j = ow j) ∧ ∀ j, j < nd → dn j = tt j
section CK
variable {n td nd : Nat} {bs : Int32} {kd ag pa bo wa dm dn tt ow : Nat → Int32} {ga : Nat → Int64}
theorem ck_0 (h : zI n td bs kd ag pa bo wa ga) {k : Nat} (hk : k < n) : abtF n kd ag bo dm dn nd (nI k) (nI 0) = wa (3 + 3 * k) := by
  rw [abt_ok hk h.2.1 (by omega)]; exact h.k k hk
theorem ck_1 (h : zI n td bs kd ag pa bo wa ga) {k : Nat} (hk : k < n) : abtF n kd ag bo dm dn nd (nI k) (nI 1) = wa (3 + 3 * k + 1) := by
  rw [abt_ok hk h.2.1 (by omega), show 3 + 3 * k + 1 = 4 + 3 * k by omega]; exact h.g k hk
theorem ck_2 (h : zI n td bs kd ag pa bo wa ga) {k : Nat} (hk : k < n) : abtF n kd ag bo dm dn nd (nI k) (nI 2) = nwF wa k := by
  rw [abt_ok hk h.2.1 (by omega)]; exact h.v k hk
theorem ck_3 (h : zI n td bs kd ag pa bo wa ga) {k : Nat} (hk : k < n) : abtF n kd ag bo dm dn nd (nI k) (nI 3) = wa (3 + 3 * k + 2) := by
  rw [abt_ok hk h.2.1 (by omega), show 3 + 3 * k + 2 = 5 + 3 * k by omega]
  obtain ⟨c, a9, -, -, -, -, -, -, e⟩ := h.2.2.2.2.2.2.1 k hk
  exact e
theorem ck_4 (h : zI n td bs kd ag pa bo wa ga) (hd : zD nd dm dn tt ow) {k : Nat} (hk : k < n) : abtF n kd ag bo dm dn nd (nI k) (nI 4) = owF n (nwF wa) ow tt nd k := by
  rw [abt_ok hk h.2.1 (by omega)]; exact owF_c h.v hd.2.1 hd.2.2
theorem ck_5 (h : zI n td bs kd ag pa bo wa ga) {k : Nat} (hk : k < n) : abtF n kd ag bo dm dn nd (nI k) (nI 5) = nI (ordF n (nwF wa) k) := by
  rw [abt_ok hk h.2.1 (by omega)]; exact congrArg nI (ordF_c h.v hk)
theorem ck_then (h : zI n td bs kd ag pa bo wa ga) {k d : Nat} (hk : k < n) (hd : d ≤ td) : thF n td kd ag pa (nI k) (nI d) = tnF wa ga td k d := by
  rw [th_ok hk h.2.1 hd h.2.2.1]; exact h.t hd k hk
theorem ck_goes (h : zI n td bs kd ag pa bo wa ga) {x : Int32} {d : Nat} (hd : d ≤ td) : goF n td kd ag pa x (nI d) = hwF n (fun j => tnF wa ga td j d) x := by
  rw [go_ok (by have := h.1; omega) hd h.2.2.1]; exact hwF_c (h.t hd)
theorem ck_goesN (h : zI n td bs kd ag pa bo wa ga) {x : Int32} : goF n td kd ag pa x (nI td) = hwF n (nwF wa) x := by
  rw [ck_goes h (Nat.le_refl _)]; exact hwF_c (fun j _ => h.tt j)
theorem ck_as1 (h : zI n td bs kd ag pa bo wa ga) {k c : Nat} (hk : k < n) (hc : c ≤ 4) (q : nI c = nI 0 ∨ wa (3 + 3 * k) = nI c ∨ nI c = nI 2 ∧ wa (3 + 3 * k) = nI 4) : asF n kd (nI k) (nI c) = nI k := by
  rw [as_ok hk h.2.1 (x_in_nI hc (by omega)), h.k k hk, if_pos q]
theorem ck_as0 (h : zI n td bs kd ag pa bo wa ga) {k c : Nat} (hk : k < n) (hc : c ≤ 4) (q : ¬ (nI c = nI 0 ∨ wa (3 + 3 * k) = nI c ∨ nI c = nI 2 ∧ wa (3 + 3 * k) = nI 4)) : asF n kd (nI k) (nI c) = -1 := by
  rw [as_ok hk h.2.1 (x_in_nI hc (by omega)), h.k k hk, if_neg q]
def whW (wa : Nat → Int32) (k : Nat) (x : Int32) (d : Nat) : Bool := decide (numF (wa (3 + 3 * k)) (agF (wa (3 + 3 * k)) (wa (3 + 3 * k + 1)) d) = x)
theorem ck_when (h : zI n td bs kd ag pa bo wa ga) {k : Nat} {x : Int32} (hk : k < n) : whnF n kd ag (nI k) x = ff (whW wa k x) 0 100 := by
  rw [whn_ok hk h.2.1, h.k k hk, h.g k hk, show 4 + 3 * k = 3 + 3 * k + 1 by omega]
  rfl
theorem ck_walk (h : zI n td bs kd ag pa bo wa ga) : (if n = 0 then -103 else nI (wkF n (nmF kd ag) n)) = nI (wkF n (nwF wa) n) := by
  rw [if_neg (by have := h.1; omega)]; exact congrArg nI (wkF_c h.v)
theorem ck_c {nh pl st w : Nat} (hw : w ≤ 9) : cntF n td bs kd ag dm dn nd nh pl st (nI w) = hmF n td bs kd ag dm dn nd nh pl st w := cnt_ok hw
theorem ck_c0 {nh pl st : Nat} : cntF n td bs kd ag dm dn nd nh pl st (nI 0) = nI n := cnt_ok (w := 0) (by omega)
theorem ck_c1 {nh pl st : Nat} : cntF n td bs kd ag dm dn nd nh pl st (nI 1) = nI td := cnt_ok (w := 1) (by omega)
theorem ck_c2 (h : zI n td bs kd ag pa bo wa ga) {nh pl st : Nat} : cntF n td bs kd ag dm dn nd nh pl st (nI 2) = wa 2 := (cnt_ok (w := 2) (by omega)).trans h.2.2.2.2.2.1.symm
theorem ck_c3 (h : zI n td bs kd ag pa bo wa ga) {nh pl st : Nat} : cntF n td bs kd ag dm dn nd nh pl st (nI 3) = sm (nwF wa) n := (cnt_ok (w := 3) (by omega)).trans (sm_c h.v)
theorem ck_c4 (h : zI n td bs kd ag pa bo wa ga) {nh pl st : Nat} : cntF n td bs kd ag dm dn nd nh pl st (nI 4) = nI (unF n (nwF wa)) := (cnt_ok (w := 4) (by omega)).trans (congrArg nI (unF_c h.v))
theorem ck_c5 {nh pl st : Nat} : cntF n td bs kd ag dm dn nd nh pl st (nI 5) = nI nd := cnt_ok (w := 5) (by omega)
theorem ck_c6 (h : zI n td bs kd ag pa bo wa ga) (hd : zD nd dm dn tt ow) {nh pl st : Nat} : cntF n td bs kd ag dm dn nd nh pl st (nI 6) = owA n (nwF wa) ow tt nd := (cnt_ok (w := 6) (by omega)).trans (owA_c h.v hd.2.1 hd.2.2)
theorem ck_y0 (h : zI n td bs kd ag pa bo wa ga) {k z : Nat} (h1 : 1 ≤ k) (h2 : k ≤ 60) (hz : z < 2147483648) : yrF n kd ag (nI k) (nI z) (nI 0) = nI (yWf n wa z k) := by
  rw [yrF_ok (by_nI h1 h2 (by omega)) h2 hz (x_in_nI (by omega) (by omega)), if_neg (by have := h.1; omega)]
  unfold yrN
  rw [if_pos rfl, yWf_ok (by have := h.1; omega) h.k h.g]
theorem ck_y1 (h : zI n td bs kd ag pa bo wa ga) {k z : Nat} (h1 : 1 ≤ k) (h2 : k ≤ 60) (hz : z < 2147483648) : yrF n kd ag (nI k) (nI z) (nI 1) = sm (nwF (yW n wa z k)) n := by
  rw [yrF_ok (by_nI h1 h2 (by omega)) h2 hz (x_in_nI (by omega) (by omega)), if_neg (by have := h.1; omega)]
  unfold yrN
  rw [if_neg (by decide), if_pos rfl, yWs_ok (by have := h.1; omega) h.k h.g]
theorem ck_y2 (h : zI n td bs kd ag pa bo wa ga) {k z : Nat} (h1 : 1 ≤ k) (h2 : k ≤ 60) (hz : z < 2147483648) : yrF n kd ag (nI k) (nI z) (nI 2) = nI (ySd z k) := by
  rw [yrF_ok (by_nI h1 h2 (by omega)) h2 hz (x_in_nI (by omega) (by omega)), if_neg (by have := h.1; omega)]
  unfold yrN
  rw [if_neg (by decide), if_neg (by decide)]
/-! the owed sum: the house that is the first of its number -/
def owP (n : Nat) (v ow tt : Nat → Int32) (k q : Nat) : Int32 := if hwF n v (tt q) = nI k then ow q else nI 0
theorem owP_F {v : Nat → Int32} {k : Nat} : sm (owP n v ow tt k) nd = owF n v ow tt nd k := rfl
theorem hw_ne {v : Nat → Int32} {k : Nat} {x : Int32} (hn : n ≤ 6) (hk : k < n) (h : ¬ v k = x) : ¬ hwF n v x = nI k := by
  intro q
  unfold hwF at q
  rcases ff_cases (hwP v x) n 0 with ⟨e, -⟩ | ⟨j, -, h2, e, h4, -⟩
  · rw [e] at q
    exact absurd q (by
      have key : ∀ k, k < 6 → ¬ (-1 : Int32) = nI k := by decide
      exact key k (by omega))
  · rw [e] at q
    have hjk : j = k := (nI_eq (by omega) (by omega)).mp q
    rw [hjk] at h4
    exact h (of_decide_eq_true h4)
theorem owP_1 {v : Nat → Int32} {k q : Nat} (hf : hwF n v (v k) = nI k) (h : tt q = v k) : owP n v ow tt k q = ow q := by
  unfold owP
  rw [h, if_pos hf]
theorem owP_2 {v : Nat → Int32} {k q : Nat} (hn : n ≤ 6) (hk : k < n) (h : ¬ tt q = v k) : owP n v ow tt k q = nI 0 := by
  unfold owP
  rw [if_neg (hw_ne hn hk (fun e => h e.symm))]
theorem owP_0 {v : Nat → Int32} {k q : Nat} (hn : n ≤ 6) (hk : k < n) (hf : ¬ hwF n v (v k) = nI k) : owP n v ow tt k q = nI 0 := by
  unfold owP
  by_cases h : v k = tt q
  · rw [← h, if_neg hf]
  · rw [if_neg (hw_ne hn hk h)]
theorem sm_0 {f : Nat → Int32} : ∀ {k : Nat}, (∀ j, j < k → f j = nI 0) → sm f k = nI 0
  | 0, _ => rfl
  | k + 1, h => by
    simp only [sm]
    rw [sm_0 (fun j hj => h j (by omega)), h k (by omega)]
    rfl
end CK
