/-! ===== facts of numbers for the walks ===== -/
abbrev x_in (x : Int32) (k : Nat) : Prop := 0 ≤ x ∧ x ≤ nI k
theorem x_in_of {x : Int32} {k : Nat} (h : x_in x k) (hk : k < 2147483647) : ∃ w : Nat, w ≤ k ∧ x = nI w := by
  rcases pk_ix x (n := k + 1) (by omega) with h1 | h1 | ⟨j, h1, h2⟩
  · exact absurd h1 (Int32.not_lt.mpr h.1)
  · exact absurd (Int32.le_trans h1 h.2) (nI_ge (Nat.lt_succ_self k) (by omega))
  · exact ⟨j, by omega, h2⟩
theorem x_in_nI {w k : Nat} (h : w ≤ k) (hk : k < 2147483648) : x_in (nI w) k := ⟨nI_pos' (by omega), nI_le h hk⟩
theorem x_out {x : Int32} {k : Nat} (h : ¬ x_in x k) (hk : k < 2147483648) : x.toInt < 0 ∨ (k : Int) < x.toInt := by
  have e := nI_toInt (n := k) hk
  rcases Classical.em (0 ≤ x) with h0 | h0
  · refine Or.inr ?_
    have h1 : ¬ x ≤ nI k := fun q => h ⟨h0, q⟩
    rw [Int32.le_iff_toInt_le, e] at h1
    omega
  · refine Or.inl ?_
    rw [Int32.le_iff_toInt_le] at h0
    have : (0 : Int32).toInt = 0 := rfl
    omega
theorem isH_iff {n : Nat} {x : Int32} (h : n ≤ 6) : (nI 0 ≤ x ∧ x ≤ nI n - nI 1) ↔ hIn n x := by
  by_cases h0 : n = 0
  · subst h0
    refine ⟨fun q => ?_, fun q => ?_⟩
    · have := Int32.le_trans q.1 q.2
      exact absurd this (by decide)
    · exact absurd q.2 (Int32.not_lt.mpr q.1)
  · rw [pk_sub (show 1 ≤ n by omega)]
    refine ⟨fun q => ⟨q.1, ?_⟩, fun q => ⟨q.1, ?_⟩⟩
    · exact Int32.lt_of_le_of_lt q.2 (nI_lt (by omega) (by omega))
    · obtain ⟨j, hj, rfl⟩ := hIn_of q (by omega)
      exact nI_le (by omega) (by omega)
abbrev dIn (n td : Nat) (d : Int32) : Prop := 0 < n ∧ 0 ≤ d ∧ d ≤ nI td
theorem dec_eq (k : Nat) : nI k + Int32.ofInt (-1) = nI k - nI 1 := by
  rw [Int32.sub_eq_add_neg]; rfl
theorem sub1_pos {m : Nat} (h : m < 2147483648) (hn : ¬ nI m - nI 1 < 0) : ∃ k, m = k + 1 := by
  cases m with
  | zero => exact absurd (by decide) hn
  | succ k => exact ⟨k, rfl⟩
theorem sub1_neg {m : Nat} (h : m < 2147483648) (hn : nI m - nI 1 < 0) : m = 0 := by
  cases m with
  | zero => rfl
  | succ k =>
    rw [pk_sub (show 1 ≤ k + 1 by omega)] at hn
    exact absurd hn (nI_pos (by omega))
theorem sub1_s (k : Nat) : nI (k + 1) - nI 1 = nI k := pk_sub (by omega)
/-- pigeons: an injective map of n places into n places meets every place -/
theorem pig : ∀ (n : Nat) (f : Nat → Nat), (∀ i, i < n → f i < n) → (∀ i j, i < n → j < n → f i = f j → i = j) → ∀ t, t < n → ∃ i, i < n ∧ f i = t
  | 0, _, _, _, t, ht => by omega
  | n + 1, f, hr, hi, t, ht => by
    by_cases hl : f n = t
    · exact ⟨n, by omega, hl⟩
    -- g: f with n moved to where f n was
    have hg := pig n (fun i => if f i = n then f n else f i)
      (fun i hin => by
        by_cases h : f i = n
        · simp only [h, if_true]
          have h1 := hr n (by omega)
          have h2 : f n ≠ n := fun q => absurd (hi i n (by omega) (by omega) (by omega)) (by omega)
          omega
        · simp only [h, if_false]
          have := hr i (by omega)
          omega)
      (fun i j hin hjn he => by
        by_cases h1 : f i = n <;> by_cases h2 : f j = n
        · exact hi i j (by omega) (by omega) (by omega)
        · simp only [h1, h2, if_true, if_false] at he
          exact absurd (hi n j (by omega) (by omega) he) (by omega)
        · simp only [h1, h2, if_true, if_false] at he
          exact absurd (hi i n (by omega) (by omega) he) (by omega)
        · simp only [h1, h2, if_false] at he
          exact hi i j (by omega) (by omega) he)
    by_cases htn : t = n
    · -- some i < n with f i = n, or f n = n
      by_cases hfn : f n = n
      · exact ⟨n, by omega, by omega⟩
      · have hfl : f n < n := by have := hr n (by omega); omega
        obtain ⟨i, h1, h2⟩ := hg (f n) hfl
        by_cases h : f i = n
        · exact ⟨i, by omega, by omega⟩
        · simp only [h, if_false] at h2
          exact absurd (hi i n (by omega) (by omega) h2) (by omega)
    · obtain ⟨i, h1, h2⟩ := hg t (by omega)
      by_cases h : f i = n
      · simp only [h, if_true] at h2
        exact absurd h2 hl
      · simp only [h, if_false] at h2
        exact ⟨i, by omega, h2⟩
theorem cn_mono {p q : Nat → Bool} : ∀ {k : Nat}, (∀ j, j < k → p j = true → q j = true) → cn p k ≤ cn q k
  | 0, _ => Nat.le_refl _
  | k + 1, h => by
    have h1 := cn_mono (k := k) (fun j hj => h j (by omega))
    simp only [cn]
    by_cases hp : p k = true
    · rw [if_pos hp, if_pos (h k (by omega) hp)]; omega
    · rw [if_neg hp]; omega
theorem cn_lt {p q : Nat → Bool} : ∀ {k i : Nat}, i < k → p i = false → q i = true → (∀ j, j < k → p j = true → q j = true) → cn p k < cn q k
  | 0, i, hi, _, _, _ => by omega
  | k + 1, i, hi, hp, hq, h => by
    simp only [cn]
    by_cases hik : i = k
    · subst hik
      have := cn_mono (k := i) (p := p) (q := q) (fun j hj => h j (by omega))
      rw [if_neg (by rw [hp]; decide), if_pos hq]; omega
    · have h1 := cn_lt (k := k) (i := i) (by omega) hp hq (fun j hj => h j (by omega))
      by_cases hp2 : p k = true
      · rw [if_pos hp2, if_pos (h k (by omega) hp2)]; omega
      · rw [if_neg hp2]; omega
theorem cn_all_lt {p : Nat → Bool} {k i : Nat} (hi : i < k) (hp : p i = false) : cn p k < k := by
  have h := cn_lt (p := p) (q := fun _ => true) hi hp rfl (fun _ _ _ => rfl)
  have h2 : cn (fun _ => true) k ≤ k := cn_le _ _
  omega
/-- before: less, or like and of lesser place -/
theorem ordP_tr {v : Nat → Int32} {a b c : Nat} (h1 : ordP v b a = true) (h2 : ordP v c b = true) : ordP v c a = true := by
  simp only [ordP, decide_eq_true_eq] at *
  rcases h1 with h1 | ⟨h1, h3⟩ <;> rcases h2 with h2 | ⟨h2, h4⟩
  · exact Or.inl (Int32.lt_trans h1 h2)
  · exact Or.inl (by rw [← h2]; exact h1)
  · exact Or.inl (by rw [h1]; exact h2)
  · exact Or.inr ⟨by rw [h1, h2], by omega⟩
theorem ordP_irr {v : Nat → Int32} {a : Nat} : ordP v a a = false := by
  simp only [ordP, decide_eq_false_iff_not]
  rintro (h | ⟨-, h⟩)
  · exact Int32.lt_irrefl h
  · omega
theorem ordP_tot {v : Nat → Int32} {a b : Nat} (h : a ≠ b) : ordP v b a = true ∨ ordP v a b = true := by
  simp only [ordP, decide_eq_true_eq]
  rcases Int32.lt_or_le (v a) (v b) with h1 | h1
  · exact Or.inl (Or.inl h1)
  · rcases Int32.lt_or_eq_of_le h1 with h2 | h2
    · exact Or.inr (Or.inl h2)
    · rcases Nat.lt_or_gt_of_ne h with h3 | h3
      · exact Or.inl (Or.inr ⟨h2.symm, h3⟩)
      · exact Or.inr (Or.inr ⟨h2, h3⟩)
theorem ordF_lt {n : Nat} {v : Nat → Int32} {h : Nat} (hh : h < n) : ordF n v h < n := cn_all_lt hh ordP_irr
theorem ordF_inj {n : Nat} {v : Nat → Int32} {a b : Nat} (ha : a < n) (hb : b < n) (h : ordF n v a = ordF n v b) : a = b := by
  apply Classical.byContradiction
  intro hne
  rcases ordP_tot (v := v) hne with h1 | h1
  · have := cn_lt (p := ordP v a) (q := ordP v b) ha ordP_irr h1 (fun j _ hj => ordP_tr hj h1)
    unfold ordF at h
    omega
  · have := cn_lt (p := ordP v b) (q := ordP v a) hb ordP_irr h1 (fun j _ hj => ordP_tr hj h1)
    unfold ordF at h
    omega
theorem hot_go {n : Nat} {v : Nat → Int32} {t i : Nat} : ∀ {k : Nat}, k ≤ n → n - k ≤ i → i < n → ordF n v i = t → (∀ j, n - k ≤ j → j < i → ordF n v j ≠ t) → hotF n v t k = i
  | 0, _, h1, h2, _, _ => by omega
  | k + 1, hk, h1, h2, h3, h4 => by
    simp only [hotF]
    by_cases h : n - (k + 1) = i
    · rw [if_pos (by rw [h]; exact h3)]; exact h
    · rw [if_neg (h4 _ (Nat.le_refl _) (by omega))]
      exact hot_go (by omega) (by omega) h2 h3 (fun j a b => h4 j (by omega) b)
/-- the house of a turn is there, and is the first of its turn -/
theorem hot_ok {n : Nat} {v : Nat → Int32} {t : Nat} (ht : t < n) : hotF n v t n < n ∧ ordF n v (hotF n v t n) = t ∧ ∀ i, i < n → ordF n v i = t → i = hotF n v t n := by
  obtain ⟨i, h1, h2⟩ := pig n (ordF n v) (fun i hi => ordF_lt hi) (fun i j hi hj h => ordF_inj hi hj h) t ht
  have e : hotF n v t n = i := hot_go (Nat.le_refl _) (by omega) h1 h2 (fun j _ hj q => absurd (ordF_inj (by omega) h1 (q.trans h2.symm)) (by omega))
  rw [e]
  exact ⟨h1, h2, fun j hj q => ordF_inj hj h1 (q.trans h2.symm)⟩
theorem hot_lt {n : Nat} {v : Nat → Int32} {t : Nat} (hn : 0 < n) : ∀ {k : Nat}, k ≤ n → hotF n v t k < n
  | 0, _ => hn
  | k + 1, hk => by
    simp only [hotF]
    split
    · omega
    · exact hot_lt hn (by omega)
theorem wkP_lt {n : Nat} {v : Nat → Int32} : ∀ {t : Nat}, 0 < n → wkP n v t < n
  | 0, h => h
  | _ + 1, h => hot_lt h (Nat.le_refl _)
