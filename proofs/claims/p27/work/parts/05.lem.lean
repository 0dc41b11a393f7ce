/-! ===== facts of numbers for the walks ===== -/
theorem x_in_of {x : Int32} {k : Nat} (h : x_in x k) (hk : k < 2147483647) : ∃ w : Nat, w ≤ k ∧ x = nI w := by
  rcases pk_ix x (n := k + 1) (by omega) with h1 | h1 | ⟨j, h1, h2⟩
  · exact absurd h1 (Int32.not_lt.mpr h.1)
  · exact absurd (Int32.le_trans h1 h.2) (nI_ge (Nat.lt_succ_self k) (by omega))
  · exact ⟨j, by omega, h2⟩
theorem x_in_nI {w k : Nat} (h : w ≤ k) (hk : k < 2147483648) : x_in (nI w) k := ⟨nI_pos' (by omega), nI_le h hk⟩
theorem x_out {x : Int32} {k : Nat} (h : ¬ x_in x k) (hk : k < 2147483648) : x.toInt < 0 ∨ (k : Int) < x.toInt := by
  have e := nI_toInt (n := k) hk
  rcases Classical.em (0 ≤ x) with h0 | h0
  · refine Or.inr ?_
    have h1 : ¬ x ≤ nI k := fun q => h ⟨h0, q⟩
    rw [Int32.le_iff_toInt_le, e] at h1
    omega
  · refine Or.inl ?_
    rw [Int32.le_iff_toInt_le] at h0
    have : (0 : Int32).toInt = 0 := rfl
    omega
theorem isH_iff {n : Nat} {x : Int32} (h : n ≤ 6) : (nI 0 ≤ x ∧ x ≤ nI n - nI 1) ↔ hIn n x := by
  by_cases h0 : n = 0
  · subst h0
    refine ⟨fun q => ?_, fun q => ?_⟩
    · have := Int32.le_trans q.1 q.2
      exact absurd this (by decide)
    · exact absurd q.2 (Int32.not_lt.mpr q.1)
  · rw [pk_sub (show 1 ≤ n by omega)]
    refine ⟨fun q => ⟨q.1, ?_⟩, fun q => ⟨q.1, ?_⟩⟩
    · exact Int32.lt_of_le_of_lt q.2 (nI_lt (by omega) (by omega))
    · obtain ⟨j, hj, rfl⟩ := hIn_of q (by omega)
      exact nI_le (by omega) (by omega)
theorem dec_eq (k : Nat) : nI k + Int32.ofInt (-1) = nI k - nI 1 := by
  rw [Int32.sub_eq_add_neg]; rfl
theorem sub1_pos {m : Nat} (h : m < 2147483648) (hn : ¬ nI m - nI 1 < 0) : ∃ k, m = k + 1 := by
  cases m with
  | zero => exact absurd (by decide) hn
  | succ k => exact ⟨k, rfl⟩
theorem sub1_neg {m : Nat} (h : m < 2147483648) (hn : nI m - nI 1 < 0) : m = 0 := by
  cases m with
  | zero => rfl
  | succ k =>
    rw [pk_sub (show 1 ≤ k + 1 by omega)] at hn
    exact absurd hn (nI_pos (by omega))
theorem sub1_s (k : Nat) : nI (k + 1) - nI 1 = nI k := pk_sub (by omega)
/-- pigeons: an injective map of n places into n places meets every place -/
theorem pig : ∀ (n : Nat) (f : Nat → Nat), (∀ i, i < n → f i < n) → (∀ i j, i < n → j < n → f i = f j → i = j) → ∀ t, t < n → ∃ i, i < n ∧ f i = t
  | 0, _, _, _, t, ht => by omega
  | n + 1, f, hr, hi, t, ht => by
    by_cases hl : f n = t
    · exact ⟨n, by omega, hl⟩
    -- g: f with n moved to where f n was
    have hg := pig n (fun i => if f i = n then f n else f i)
      (fun i hin => by
        by_cases h : f i = n
        · simp only [h, if_true]
          have h1 := hr n (by omega)
          have h2 : f n ≠ n := fun q => absurd (hi i n (by omega) (by omega) (by omega)) (by omega)
          omega
        · simp only [h, if_false]
          have := hr i (by omega)
          omega)
      (fun i j hin hjn he => by
        by_cases h1 : f i = n <;> by_cases h2 : f j = n
        · exact hi i j (by omega) (by omega) (by omega)
        · simp only [h1, h2, if_true, if_false] at he
          exact absurd (hi n j (by omega) (by omega) he) (by omega)
        · simp only [h1, h2, if_true, if_false] at he
          exact absurd (hi i n (by omega) (by omega) he) (by omega)
        · simp only [h1, h2, if_false] at he
          exact hi i j (by omega) (by omega) he)
    by_cases htn : t = n
    · -- some i < n with f i = n, or f n = n
      by_cases hfn : f n = n
      · exact ⟨n, by omega, by omega⟩
      · have hfl : f n < n := by have := hr n (by omega); omega
        obtain ⟨i, h1, h2⟩ := hg (f n) hfl
        by_cases h : f i = n
        · exact ⟨i, by omega, by omega⟩
        · simp only [h, if_false] at h2
          exact absurd (hi i n (by omega) (by omega) h2) (by omega)
    · obtain ⟨i, h1, h2⟩ := hg t (by omega)
      by_cases h : f i = n
      · simp only [h, if_true] at h2
        exact absurd h2 hl
      · simp only [h, if_false] at h2
        exact ⟨i, by omega, h2⟩
theorem cn_mono {p q : Nat → Bool} : ∀ {k : Nat}, (∀ j, j < k → p j = true → q j = true) → cn p k ≤ cn q k
  | 0, _ => Nat.le_refl _
  | k + 1, h => by
    have h1 := cn_mono (k := k) (fun j hj => h j (by omega))
    simp only [cn]
    by_cases hp : p k = true
    · rw [if_pos hp, if_pos (h k (by omega) hp)]; omega
    · rw [if_neg hp]; omega
theorem cn_lt {p q : Nat → Bool} : ∀ {k i : Nat}, i < k → p i = false → q i = true → (∀ j, j < k → p j = true → q j = true) → cn p k < cn q k
  | 0, i, hi, _, _, _ => by omega
  | k + 1, i, hi, hp, hq, h => by
    simp only [cn]
    by_cases hik : i = k
    · subst hik
      have := cn_mono (k := i) (p := p) (q := q) (fun j hj => h j (by omega))
      rw [if_neg (by rw [hp]; decide), if_pos hq]; omega
    · have h1 := cn_lt (k := k) (i := i) (by omega) hp hq (fun j hj => h j (by omega))
      by_cases hp2 : p k = true
      · rw [if_pos hp2, if_pos (h k (by omega) hp2)]; omega
      · rw [if_neg hp2]; omega
theorem cn_all_lt {p : Nat → Bool} {k i : Nat} (hi : i < k) (hp : p i = false) : cn p k < k := by
  have h := cn_lt (p := p) (q := fun _ => true) hi hp rfl (fun _ _ _ => rfl)
  have h2 : cn (fun _ => true) k ≤ k := cn_le _ _
  omega
/-- before: less, or like and of lesser place -/
theorem ordP_tr {v : Nat → Int32} {a b c : Nat} (h1 : ordP v b a = true) (h2 : ordP v c b = true) : ordP v c a = true := by
  simp only [ordP, decide_eq_true_eq] at *
  rcases h1 with h1 | ⟨h1, h3⟩ <;> rcases h2 with h2 | ⟨h2, h4⟩
  · exact Or.inl (Int32.lt_trans h1 h2)
  · exact Or.inl (by rw [← h2]; exact h1)
  · exact Or.inl (by rw [h1]; exact h2)
  · exact Or.inr ⟨by rw [h1, h2], by omega⟩
theorem ordP_irr {v : Nat → Int32} {a : Nat} : ordP v a a = false := by
  simp only [ordP, decide_eq_false_iff_not]
  rintro (h | ⟨-, h⟩)
  · exact Int32.lt_irrefl h
  · omega
theorem ordP_tot {v : Nat → Int32} {a b : Nat} (h : a ≠ b) : ordP v b a = true ∨ ordP v a b = true := by
  simp only [ordP, decide_eq_true_eq]
  rcases Int32.lt_or_le (v a) (v b) with h1 | h1
  · exact Or.inl (Or.inl h1)
  · rcases Int32.lt_or_eq_of_le h1 with h2 | h2
    · exact Or.inr (Or.inl h2)
    · rcases Nat.lt_or_gt_of_ne h with h3 | h3
      · exact Or.inl (Or.inr ⟨h2.symm, h3⟩)
      · exact Or.inr (Or.inr ⟨h2, h3⟩)
theorem ordF_lt {n : Nat} {v : Nat → Int32} {h : Nat} (hh : h < n) : ordF n v h < n := cn_all_lt hh ordP_irr
theorem ordF_inj {n : Nat} {v : Nat → Int32} {a b : Nat} (ha : a < n) (hb : b < n) (h : ordF n v a = ordF n v b) : a = b := by
  apply Classical.byContradiction
  intro hne
  rcases ordP_tot (v := v) hne with h1 | h1
  · have := cn_lt (p := ordP v a) (q := ordP v b) ha ordP_irr h1 (fun j _ hj => ordP_tr hj h1)
    unfold ordF at h
    omega
  · have := cn_lt (p := ordP v b) (q := ordP v a) hb ordP_irr h1 (fun j _ hj => ordP_tr hj h1)
    unfold ordF at h
    omega
theorem hot_go {n : Nat} {v : Nat → Int32} {t i : Nat} : ∀ {k : Nat}, k ≤ n → n - k ≤ i → i < n → ordF n v i = t → (∀ j, n - k ≤ j → j < i → ordF n v j ≠ t) → hotF n v t k = i
  | 0, _, h1, h2, _, _ => by omega
  | k + 1, hk, h1, h2, h3, h4 => by
    simp only [hotF]
    by_cases h : n - (k + 1) = i
    · rw [if_pos (by rw [h]; exact h3)]; exact h
    · rw [if_neg (h4 _ (Nat.le_refl _) (by omega))]
      exact hot_go (by omega) (by omega) h2 h3 (fun j a b => h4 j (by omega) b)
/-- the house of a turn is there, and is the first of its turn -/
theorem hot_ok {n : Nat} {v : Nat → Int32} {t : Nat} (ht : t < n) : hotF n v t n < n ∧ ordF n v (hotF n v t n) = t ∧ ∀ i, i < n → ordF n v i = t → i = hotF n v t n := by
  obtain ⟨i, h1, h2⟩ := pig n (ordF n v) (fun i hi => ordF_lt hi) (fun i j hi hj h => ordF_inj hi hj h) t ht
  have e : hotF n v t n = i := hot_go (Nat.le_refl _) (by omega) h1 h2 (fun j _ hj q => absurd (ordF_inj (by omega) h1 (q.trans h2.symm)) (by omega))
  rw [e]
  exact ⟨h1, h2, fun j hj q => ordF_inj hj h1 (q.trans h2.symm)⟩
theorem hot_lt {n : Nat} {v : Nat → Int32} {t : Nat} (hn : 0 < n) : ∀ {k : Nat}, k ≤ n → hotF n v t k < n
  | 0, _ => hn
  | k + 1, hk => by
    simp only [hotF]
    split
    · omega
    · exact hot_lt hn (by omega)
theorem wkP_lt {n : Nat} {v : Nat → Int32} : ∀ {t : Nat}, 0 < n → wkP n v t < n
  | 0, h => h
  | _ + 1, h => hot_lt h (Nat.le_refl _)
theorem bit_is : ∀ set, set < 64 → ∀ h, h < 6 → ((nI set >>> (nI h &&& 31)) &&& nI 1 = nI 1 ↔ set.testBit h = true) := by decide +kernel
theorem ff_f_at {v : Nat → Int32} {x : Int32} {k i j : Nat} (h : ¬ v k = x) (hj : j = k + 1) : ff (hwP v x) k (i + 1) = ff (hwP v x) j i := by
  rw [hj]
  exact ff_f (decide_eq_false h)
theorem numOn_now {kd ag pa : Nat → Int32} {td : Nat} : (fun h => numOn kd ag pa td h td) = nmF kd ag := by
  funext h
  unfold numOn ageOn nmF
  rw [if_pos rfl]
theorem hwF_now {n : Nat} {kd ag pa : Nat → Int32} {td : Nat} {x : Int32} : hwF n (fun h => numOn kd ag pa td h td) x = hwF n (nmF kd ag) x := by rw [numOn_now]
theorem al_t {p : Nat → Bool} {k : Nat} (h1 : al p k = true) (h2 : p k = true) : al p (k + 1) = true := by simp [al, h1, h2]
theorem al_f1 {p : Nat → Bool} {k : Nat} (h : ¬ al p k = true) : ¬ al p (k + 1) = true := fun q => h (by simp only [al, Bool.and_eq_true] at q; exact q.1)
theorem al_f2 {p : Nat → Bool} {k : Nat} (h : ¬ p k = true) : ¬ al p (k + 1) = true := fun q => h (by simp only [al, Bool.and_eq_true] at q; exact q.2)
theorem cr_cn {p : Nat → Bool} : ∀ (n lo : Nat), cn p (lo + n) = cn p lo + cr p lo n
  | 0, lo => rfl
  | n + 1, lo => by
    have h := cr_cn (p := p) n (lo + 1)
    rw [show lo + (n + 1) = (lo + 1) + n by omega, h]
    simp only [cn, cr]
    omega
theorem cr_0 {p : Nat → Bool} {n : Nat} : cr p 0 n = cn p n := by
  have h := cr_cn (p := p) n 0
  rw [Nat.zero_add] at h
  rw [h]
  simp [cn]
theorem abt_ok {n : Nat} {kd ag bo dm dn : Nat → Int32} {nd j w : Nat} (hj : j < n) (hn : n ≤ 6) (hw : w ≤ 5) : abtF n kd ag bo dm dn nd (nI j) (nI w) = abF n kd ag bo dm dn nd j w := by
  unfold abtF
  rw [if_pos (hIn_nI hj (by omega)), if_pos (x_in_nI hw (by omega)), nI_clamp (by omega), nI_clamp (by omega)]
theorem abt_1 {n : Nat} {kd ag bo dm dn : Nat → Int32} {nd : Nat} {x w : Int32} (h : ¬ hIn n x) : abtF n kd ag bo dm dn nd x w = -101 := if_neg h
theorem abt_2 {n : Nat} {kd ag bo dm dn : Nat → Int32} {nd j : Nat} {w : Int32} (hj : j < n) (hn : n ≤ 6) (h : ¬ x_in w 5) : abtF n kd ag bo dm dn nd (nI j) w = -102 := by
  unfold abtF
  rw [if_pos (hIn_nI hj (by omega)), if_neg h]
theorem as_1 {n : Nat} {kd : Nat → Int32} {x k : Int32} (h : ¬ hIn n x) : asF n kd x k = -101 := if_neg h
theorem as_2 {n : Nat} {kd : Nat → Int32} {j : Nat} {k : Int32} (hj : j < n) (hn : n ≤ 6) (h : ¬ x_in k 4) : asF n kd (nI j) k = -102 := by
  unfold asF
  rw [if_pos (hIn_nI hj (by omega)), if_neg h]
theorem as_ok {n : Nat} {kd : Nat → Int32} {j : Nat} {k : Int32} (hj : j < n) (hn : n ≤ 6) (h : x_in k 4) : asF n kd (nI j) k = (if k = nI 0 ∨ kd j = k ∨ k = nI 2 ∧ kd j = nI 4 then nI j else -1) := by
  unfold asF
  rw [if_pos (hIn_nI hj (by omega)), if_pos h, nI_clamp (by omega)]
theorem th_ok {n td : Nat} {kd ag pa : Nat → Int32} {j d : Nat} (hj : j < n) (hn : n ≤ 6) (hd : d ≤ td) (ht : td ≤ 30) : thF n td kd ag pa (nI j) (nI d) = numOn kd ag pa td j d := by
  unfold thF
  rw [if_pos ⟨hIn_nI hj (by omega), Nat.lt_of_le_of_lt (Nat.zero_le _) hj, x_in_nI hd (by omega)⟩, nI_clamp (by omega), nI_clamp (by omega)]
theorem go_ok {n td : Nat} {kd ag pa : Nat → Int32} {x : Int32} {d : Nat} (hn : 0 < n) (hd : d ≤ td) (ht : td ≤ 30) : goF n td kd ag pa x (nI d) = hwF n (fun h => numOn kd ag pa td h d) x := by
  unfold goF
  rw [if_pos ⟨hn, x_in_nI hd (by omega)⟩, nI_clamp (by omega)]
theorem whn_ok {n : Nat} {kd ag : Nat → Int32} {j : Nat} {y : Int32} (hj : j < n) (hn : n ≤ 6) : whnF n kd ag (nI j) y = whF (kd j) (ag j) y := by
  unfold whnF
  rw [if_pos (hIn_nI hj (by omega)), nI_clamp (by omega)]
theorem cnt_ok {n td : Nat} {bs : Int32} {kd ag dm dn : Nat → Int32} {nd nh pl st w : Nat} (hw : w ≤ 9) : cntF n td bs kd ag dm dn nd nh pl st (nI w) = hmF n td bs kd ag dm dn nd nh pl st w := by
  unfold cntF
  rw [if_pos (x_in_nI hw (by omega)), nI_clamp (by omega)]
theorem woP_le {cb : Nat → Bool} {v : Nat → Int32} {td a : Nat} : woP cb v td a ≤ td + 1 := by
  unfold woP
  split
  · exact cn_le _ _
  · omega
theorem mwo_le {cb : Nat → Bool} {v : Nat → Int32} {td n : Nat} : mxF (woP cb v td) n ≤ td + 1 := mxF_le (fun _ _ => woP_le)
theorem woF_le {cb : Nat → Bool} {v : Nat → Int32} {td : Nat} : woF cb v td ≤ td + 1 := mwo_le
theorem asL_le {w : Nat → Nat} {f0 : Nat} : ∀ {h : Nat}, asL w f0 h ≤ f0
  | 0 => Nat.le_refl _
  | h + 1 => by
    have := asL_le (w := w) (f0 := f0) (h := h)
    simp only [asL]
    split <;> omega
theorem f0F_le {cb : Nat → Bool} {td : Nat} : f0F cb td ≤ 268435456 := by
  unfold f0F
  split <;> omega
theorem bit_n : ∀ set, set < 64 → ∀ h, h < 6 → (nI set >>> (nI h &&& 31)) &&& nI 1 = nI (if set.testBit h = true then 1 else 0) := by decide +kernel
theorem dg_iff {c : Nat} (h : c ≤ 126) : (nI 0 ≤ nI c - nI 48 ∧ nI c - nI 48 ≤ nI 9) ↔ 48 ≤ c ∧ c ≤ 57 := by
  by_cases h1 : c < 48
  · have := pk_sneg (a := c) (b := 48) (by omega) h1
    exact ⟨fun q => absurd this (Int32.not_lt.mpr q.1), fun q => by omega⟩
  · rw [pk_sub (by omega)]
    refine ⟨fun q => ?_, fun q => ⟨nI_pos' (by omega), nI_le (by omega) (by omega)⟩⟩
    have := (nI_leI (a := c - 48) (b := 9) (by omega) (by omega)).mp q.2
    omega
theorem fz_go {p : Nat → Bool} : ∀ {n lo k : Nat}, lo ≤ k → k < lo + n → (∀ j, lo ≤ j → j < k → p j = true) → p k = false → fz p lo n = k
  | 0, lo, k, h1, h2, _, _ => by omega
  | n + 1, lo, k, h1, h2, h3, h4 => by
    simp only [fz]
    by_cases h : lo = k
    · subst h
      rw [if_neg (by rw [h4]; decide)]
    · rw [if_pos (h3 lo (Nat.le_refl _) (by omega))]
      exact fz_go (by omega) (by omega) (fun j a b => h3 j (by omega) b) h4
theorem fz_all {p : Nat → Bool} : ∀ {n lo : Nat}, (∀ j, lo ≤ j → j < lo + n → p j = true) → fz p lo n = lo + n
  | 0, lo, _ => rfl
  | n + 1, lo, h => by
    simp only [fz]
    rw [if_pos (h lo (Nat.le_refl _) (by omega)), fz_all (fun j a b => h j (by omega) (by omega))]
    omega
theorem fz_le {p : Nat → Bool} : ∀ {n lo : Nat}, fz p lo n ≤ lo + n
  | 0, lo => Nat.le_refl _
  | n + 1, lo => by
    have := fz_le (p := p) (n := n) (lo := lo + 1)
    simp only [fz]
    split <;> omega
theorem fz_c {p q : Nat → Bool} : ∀ {n lo : Nat}, (∀ j, lo ≤ j → j < lo + n → p j = q j) → fz p lo n = fz q lo n
  | 0, _, _ => rfl
  | n + 1, lo, h => by
    simp only [fz]
    rw [h lo (Nat.le_refl _) (by omega), fz_c (n := n) (lo := lo + 1) (fun j a b => h j (by omega) (by omega))]
/-- the reference's letters and the class's stop at one place -/
theorem fz_gd {pg : Nat → Int32} {pl : Nat} : fz (gdM pg) 0 pl = ftF pg pl := by
  have agree : ∀ j, j < 17 → gdM pg j = gdX j (pg j).toNatClampNeg := by
    intro j hj
    unfold gdM gdX
    rw [decide_eq_true hj, Bool.true_and]
    by_cases h0 : j % 3 = 0
    · rw [if_pos h0, if_pos h0]
    · rw [if_neg h0, if_neg h0]
      by_cases h1 : j % 3 = 1
      · rw [if_pos h1, if_pos h1]
      · rw [if_neg h1, if_neg h1]
        simp [hj]
  unfold ftF
  by_cases hall : ∀ j, j < 17 → j < pl → gdM pg j = true
  · by_cases hpl : pl ≤ 17
    · exact fz_c (fun j _ h => agree j (by omega))
    · have m17 : gdM pg 17 = false := by
        unfold gdM
        rw [if_neg (by decide), if_neg (by decide)]
        exact decide_eq_false (fun q => absurd q.2 (by decide))
      have x17 : gdX 17 (pg 17).toNatClampNeg = false := by
        unfold gdX
        simp
      rw [fz_go (p := gdM pg) (k := 17) (by omega) (by omega) (fun j _ h => hall j h (by omega)) m17, fz_go (p := fun k => gdX k (pg k).toNatClampNeg) (k := 17) (by omega) (by omega) (fun j _ h => by rw [← agree j h]; exact hall j h (by omega)) x17]
  · have hex : ∃ k, k < 17 ∧ k < pl ∧ gdM pg k = false ∧ ∀ j, j < k → gdM pg j = true := by
      have key : ∀ m, m ≤ 17 → m ≤ pl → (∀ j, j < m → gdM pg j = true) ∨ ∃ k, k < 17 ∧ k < pl ∧ gdM pg k = false ∧ ∀ j, j < k → gdM pg j = true := by
        intro m
        induction m with
        | zero => intro _ _; exact Or.inl (fun j h => by omega)
        | succ m ih =>
          intro h1 h2
          rcases ih (by omega) (by omega) with h | h
          · by_cases hm : gdM pg m = true
            · refine Or.inl (fun j hj => ?_)
              by_cases hjm : j = m
              · rw [hjm]; exact hm
              · exact h j (by omega)
            · exact Or.inr ⟨m, by omega, by omega, Bool.eq_false_iff.mpr hm, h⟩
          · exact Or.inr h
      rcases key (min 17 pl) (Nat.min_le_left _ _) (Nat.min_le_right _ _) with h | h
      · exact absurd (fun j a b => h j (by omega)) hall
      · exact h
    obtain ⟨k, h1, h2, h3, h4⟩ := hex
    rw [fz_go (p := gdM pg) (k := k) (by omega) (by omega) (fun j _ h => h4 j h) h3, fz_go (p := fun k => gdX k (pg k).toNatClampNeg) (k := k) (by omega) (by omega) (fun j _ h => by rw [← agree j (by omega)]; exact h4 j h) (by rw [← agree k h1]; exact h3)]
theorem mxF_1 {f : Nat → Nat} {k : Nat} (h : f k ≤ mxF f k) : mxF f (k + 1) = mxF f k := Nat.max_eq_left h
theorem mxF_2 {f : Nat → Nat} {k x : Nat} (e : f k = x) (h : mxF f k < x) : mxF f (k + 1) = x := by
  rw [← e] at h ⊢
  exact Nat.max_eq_right (Nat.le_of_lt h)
theorem dyE1 {cb : Nat → Bool} {td i k : Nat} (ek : td + 1 - i = k + 1) (h : ¬ cb k = true) : cr cb (td + 1 - (i + 1)) (i + 1) = cr cb (td + 1 - i) i + 0 := by
  rw [show td + 1 - (i + 1) = k by omega, ek]
  simp only [cr]
  rw [if_neg h]
theorem dyE2 {cb : Nat → Bool} {td i k : Nat} (ek : td + 1 - i = k + 1) (h : cb k = true) : cr cb (td + 1 - (i + 1)) (i + 1) = cr cb (td + 1 - i) i + 1 := by
  rw [show td + 1 - (i + 1) = k by omega, ek]
  simp only [cr]
  rw [if_pos h]
theorem dyE3 {cb : Nat → Bool} {td i k : Nat} (ek : td + 1 - i = k + 1) (h : ¬ cb k = true) : ff cb (td + 1 - (i + 1)) (i + 1) = ff cb (td + 1 - i) i := by
  rw [show td + 1 - (i + 1) = k by omega, ek]
  exact ff_f (Bool.eq_false_iff.mpr h)
theorem dyE4 {cb : Nat → Bool} {td i k : Nat} (ek : td + 1 - i = k + 1) (h : cb k = true) : ff cb (td + 1 - (i + 1)) (i + 1) = nI k := by
  rw [show td + 1 - (i + 1) = k by omega]
  exact ff_t h
theorem woP_t {cb : Nat → Bool} {v : Nat → Int32} {td a : Nat} (h : cb a = true) : woP cb v td a = cn (woQ cb v a) (td + 1) := if_pos h
theorem woP_f {cb : Nat → Bool} {v : Nat → Int32} {td a : Nat} (h : ¬ cb a = true) : woP cb v td a = 0 := if_neg h
theorem gdM_0 {pg : Nat → Int32} {k : Nat} (h : k % 3 = 0) : gdM pg k = !decide (kindF (pg k).toNatClampNeg = -1) := by unfold gdM; rw [if_pos h]
theorem gdM_1 {pg : Nat → Int32} {k : Nat} (h : k % 3 = 1) : gdM pg k = decide (48 ≤ (pg k).toNatClampNeg ∧ (pg k).toNatClampNeg ≤ 57) := by unfold gdM; rw [if_neg (by omega), if_pos h]
theorem gdM_2 {pg : Nat → Int32} {k : Nat} (h : ¬ k % 3 = 0) (h1 : ¬ k % 3 = 1) : gdM pg k = decide ((pg k).toNatClampNeg = 44 ∧ k < 17) := by unfold gdM; rw [if_neg h, if_neg h1]
theorem asB_1 {w : Nat → Nat} {f0 i x : Nat} (e : w i = x) (h : asL w f0 i ≤ x) : asB w f0 (i + 1) = asB w f0 i := by
  simp only [asB]
  rw [e, if_neg (by omega)]
theorem asB_2 {w : Nat → Nat} {f0 i x : Nat} (e : w i = x) (h : x < asL w f0 i) : asB w f0 (i + 1) = nI i := by
  simp only [asB]
  rw [e, if_pos h]
theorem asL_1 {w : Nat → Nat} {f0 i x : Nat} (e : w i = x) (h : asL w f0 i ≤ x) : asL w f0 (i + 1) = asL w f0 i := by
  simp only [asL]
  rw [e, if_neg (by omega)]
theorem asL_2 {w : Nat → Nat} {f0 i x : Nat} (e : w i = x) (h : x < asL w f0 i) : asL w f0 (i + 1) = x := by
  simp only [asL]
  rw [e, if_pos h]
