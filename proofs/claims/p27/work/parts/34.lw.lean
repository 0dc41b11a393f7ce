/-! ===== the law's numbers: houses 0, day 1, births 2; kind, age, births of house k at 3, 4, 5 + 3 k ===== -/
def wK (w : Nat → Int32) (k : Nat) : Int32 := w (3 + 3 * k)
def wG (w : Nat → Int32) (k : Nat) : Int32 := w (4 + 3 * k)
def nwF (w : Nat → Int32) (k : Nat) : Int32 := numF (w (3 + 3 * k)) (w (4 + 3 * k))
theorem nwF_nm {w : Nat → Int32} : nwF w = nmF (wK w) (wG w) := rfl
/-- a day passes -/
def psF (w : Nat → Int32) (i : Nat) : Nat → Int32 := fun j => if j % 3 = 1 ∧ 4 ≤ j ∧ j < 4 + 3 * i then nxF (w (j - 1)) (w j) else w j
theorem psF_0 {w : Nat → Int32} : psF w 0 = w := by
  funext j
  exact if_neg (fun q => by omega)
theorem psF_n {w : Nat → Int32} {i j : Nat} (h : ¬ j % 3 = 1 ∨ j < 4 ∨ 4 + 3 * i ≤ j) : psF w i j = w j := if_neg (fun q => by omega)
theorem psF_k {w : Nat → Int32} {i k : Nat} : psF w i (3 + 3 * k) = w (3 + 3 * k) := psF_n (by omega)
theorem psF_b {w : Nat → Int32} {i k : Nat} : psF w i (5 + 3 * k) = w (5 + 3 * k) := psF_n (by omega)
theorem psF_g {w : Nat → Int32} {i k : Nat} (h : k < i) : psF w i (4 + 3 * k) = nxF (w (3 + 3 * k)) (w (4 + 3 * k)) := by
  unfold psF
  rw [if_pos ⟨by omega, by omega, by omega⟩, show 4 + 3 * k - 1 = 3 + 3 * k by omega]
theorem psF_s {w : Nat → Int32} {i : Nat} {x : Int32} (h : x = nxF (w (3 + 3 * i)) (w (4 + 3 * i))) : upd (psF w i) (4 + 3 * i) x = psF w (i + 1) := by
  funext j
  by_cases hj : j = 4 + 3 * i
  · subst hj
    rw [pk_us, psF_g (Nat.lt_succ_self i), h]
  · rw [pk_un hj]
    unfold psF
    by_cases hc : j % 3 = 1 ∧ 4 ≤ j ∧ j < 4 + 3 * i
    · rw [if_pos hc, if_pos ⟨hc.1, hc.2.1, by omega⟩]
    · rw [if_neg hc, if_neg (fun q => hc ⟨q.1, q.2.1, by omega⟩)]
theorem psF_s1 {w : Nat → Int32} {i : Nat} (h : psF w i (3 + 3 * i) = nI 4) : upd (psF w i) (4 + 3 * i) (psF w i (4 + 3 * i) + nI 0) = psF w (i + 1) := by
  rw [psF_k] at h
  exact psF_s (by rw [psF_n (by omega), nxF, if_pos h]; exact Int32.add_zero _)
theorem psF_s2 {w : Nat → Int32} {i : Nat} (h : ¬ psF w i (3 + 3 * i) = nI 4) : upd (psF w i) (4 + 3 * i) (psF w i (4 + 3 * i) + nI 1) = psF w (i + 1) := by
  rw [psF_k] at h
  exact psF_s (by rw [psF_n (by omega), nxF, if_neg h])
/-- a birth: the ages -/
abbrev lnW (n : Nat) (w : Nat → Int32) (k : Nat) : Prop := k + 1 < n ∧ w (6 + 3 * k) = nI 3
def beW (n : Nat) (w : Nat → Int32) (k : Nat) : Nat → Int32 := if lnW n w k then upd (upd w (4 + 3 * k) (nI 0)) (7 + 3 * k) (nI 0) else upd w (4 + 3 * k) (nI 0)
theorem beW_t {n : Nat} {w : Nat → Int32} {k : Nat} (h : lnW n w k) : beW n w k = upd (upd w (4 + 3 * k) (nI 0)) (7 + 3 * k) (nI 0) := if_pos h
theorem beW_f {n : Nat} {w : Nat → Int32} {k : Nat} (h : ¬ lnW n w k) : beW n w k = upd w (4 + 3 * k) (nI 0) := if_neg h
theorem beW_n {n : Nat} {w : Nat → Int32} {k j : Nat} (h : ¬ j % 3 = 1 ∨ j < 4) : beW n w k j = w j := by
  unfold beW
  split
  · rw [pk_un (by omega), pk_un (by omega)]
  · rw [pk_un (by omega)]
theorem ln_iff {n : Nat} {w kd : Nat → Int32} {k : Nat} (e : ∀ j, j < n → kd j = w (3 + 3 * j)) : lendF n kd k ↔ lnW n w k :=
  ⟨fun q => ⟨q.1, by rw [show 6 + 3 * k = 3 + 3 * (k + 1) by omega, ← e _ q.1]; exact q.2⟩, fun q => ⟨q.1, by rw [e _ q.1, show 3 + 3 * (k + 1) = 6 + 3 * k by omega]; exact q.2⟩⟩
theorem beW_g {n : Nat} {w kd ag : Nat → Int32} {k : Nat} (e : ∀ j, j < n → kd j = w (3 + 3 * j)) (e2 : ∀ j, j < n → ag j = w (4 + 3 * j)) : ∀ j, j < n → bearF n kd ag k j = beW n w k (4 + 3 * j) := by
  intro j hj
  by_cases h : lendF n kd k
  · rw [bear_t h, beW_t ((ln_iff e).mp h)]
    by_cases h1 : j = k + 1
    · rw [h1, pk_us, show 4 + 3 * (k + 1) = 7 + 3 * k by omega, pk_us]
    · rw [pk_un h1, pk_un (k := 7 + 3 * k) (j := 4 + 3 * j) (by omega)]
      by_cases h2 : j = k
      · rw [h2, pk_us, pk_us]
      · rw [pk_un h2, pk_un (k := 4 + 3 * k) (j := 4 + 3 * j) (by omega), e2 j hj]
  · rw [bear_f h, beW_f (fun q => h ((ln_iff e).mpr q))]
    by_cases h2 : j = k
    · rw [h2, pk_us, pk_us]
    · rw [pk_un h2, pk_un (k := 4 + 3 * k) (j := 4 + 3 * j) (by omega), e2 j hj]
theorem may_01 {c : Nat} (h : c ≤ 4) : (c % 2 = 1 ∨ c = 0) ↔ mayB (nI c) := by
  have key : ∀ c, c ≤ 4 → ((c % 2 = 1 ∨ c = 0) ↔ mayB (nI c)) := by decide
  exact key c h
/-! ===== what depends on the houses below n alone ===== -/
theorem ordF_c {n : Nat} {v u : Nat → Int32} (e : ∀ j, j < n → v j = u j) {h : Nat} (hh : h < n) : ordF n v h = ordF n u h :=
  cn_c (fun j hj => by unfold ordP; rw [e j hj, e h hh])
theorem hotF_c {n : Nat} {v u : Nat → Int32} (e : ∀ j, j < n → v j = u j) {t : Nat} : ∀ {k : Nat}, k ≤ n → hotF n v t k = hotF n u t k
  | 0, _ => rfl
  | k + 1, hk => by
    simp only [hotF]
    rw [ordF_c e (by omega), hotF_c e (by omega)]
theorem wkP_c {n : Nat} {v u : Nat → Int32} (e : ∀ j, j < n → v j = u j) : ∀ {t : Nat}, wkP n v t = wkP n u t
  | 0 => rfl
  | _ + 1 => hotF_c e (Nat.le_refl _)
theorem wkF_c {n : Nat} {v u : Nat → Int32} (e : ∀ j, j < n → v j = u j) : ∀ {t : Nat}, wkF n v t = wkF n u t
  | 0 => rfl
  | t + 1 => by
    simp only [wkF]
    rw [wkF_c e, hotF_c e (Nat.le_refl _), wkP_c e]
theorem hwF_c {n : Nat} {v u : Nat → Int32} (e : ∀ j, j < n → v j = u j) {x : Int32} : hwF n v x = hwF n u x :=
  ff_c (fun j _ hj => by unfold hwP; rw [e j (by omega)])
theorem owF_c {n : Nat} {v u dm dn dm' dn' : Nat → Int32} {nd h : Nat} (e : ∀ j, j < n → v j = u j) (e1 : ∀ j, j < nd → dm j = dm' j) (e2 : ∀ j, j < nd → dn j = dn' j) : owF n v dm dn nd h = owF n u dm' dn' nd h :=
  sm_c (fun j hj => by rw [e1 j hj, e2 j hj, hwF_c e])
theorem owA_c {n : Nat} {v u dm dn dm' dn' : Nat → Int32} {nd : Nat} (e : ∀ j, j < n → v j = u j) (e1 : ∀ j, j < nd → dm j = dm' j) (e2 : ∀ j, j < nd → dn j = dn' j) : owA n v dm dn nd = owA n u dm' dn' nd :=
  sm_c (fun j hj => owF_c e e1 e2)
theorem unF_c {n : Nat} {v u : Nat → Int32} (e : ∀ j, j < n → v j = u j) : unF n v = unF n u :=
  cn_c (fun j hj => by rw [hwF_c e, e j hj])
theorem yB_c {n : Nat} {kd ag kd' ag' : Nat → Int32} (e : ∀ j, j < n → kd j = kd' j) (e2 : ∀ j, j < n → ag j = ag' j) {h : Nat} (hh : h < n) : ∀ j, j < n → yB n kd ag h j = yB n kd' ag' h j := by
  intro j hj
  have el : lendF n kd h ↔ lendF n kd' h := ⟨fun q => ⟨q.1, by rw [← e _ q.1]; exact q.2⟩, fun q => ⟨q.1, by rw [e _ q.1]; exact q.2⟩⟩
  have key : ∀ {x : Nat → Int32} {y : Nat → Int32} {i : Nat}, (x j = y j) → upd x i (nI 0) j = upd y i (nI 0) j := by
    intro x y i hxy
    by_cases hji : j = i
    · rw [hji, pk_us, pk_us]
    · rw [pk_un hji, pk_un hji, hxy]
  unfold yB
  rw [e h hh]
  split
  · by_cases hl : lendF n kd h
    · rw [bear_t hl, bear_t (el.mp hl)]
      exact key (key (e2 j hj))
    · rw [bear_f hl, bear_f (fun q => hl (el.mpr q))]
      exact key (e2 j hj)
  · exact e2 j hj
theorem gro_c {n : Nat} {kd ag kd' ag' : Nat → Int32} (e : ∀ j, j < n → kd j = kd' j) (e2 : ∀ j, j < n → ag j = ag' j) : ∀ j, j < n → groF kd ag n j = groF kd' ag' n j := by
  intro j hj
  unfold groF
  rw [if_pos hj, if_pos hj, e j hj, e2 j hj]
theorem yAg_c {n : Nat} {kd ag kd' ag' : Nat → Int32} {z : Nat} (hn : 0 < n) (e : ∀ j, j < n → kd j = kd' j) (e2 : ∀ j, j < n → ag j = ag' j) : ∀ {i : Nat}, ∀ j, j < n → yAg n kd ag z i j = yAg n kd' ag' z i j
  | 0 => e2
  | i + 1 => gro_c e (yB_c e (yAg_c hn e e2) (drF_lt hn))
theorem nmF_c {n : Nat} {kd ag kd' ag' : Nat → Int32} (e : ∀ j, j < n → kd j = kd' j) (e2 : ∀ j, j < n → ag j = ag' j) : ∀ j, j < n → nmF kd ag j = nmF kd' ag' j := fun j hj => by
  unfold nmF
  rw [e j hj, e2 j hj]
theorem yFar_c {n : Nat} {kd ag kd' ag' : Nat → Int32} {z : Nat} (hn : 0 < n) (e : ∀ j, j < n → kd j = kd' j) (e2 : ∀ j, j < n → ag j = ag' j) : ∀ {i : Nat}, yFar n kd ag z i = yFar n kd' ag' z i
  | 0 => rfl
  | i + 1 => by
    simp only [yFar]
    rw [yFar_c hn e e2, wkF_c (nmF_c e (yB_c e (yAg_c hn e e2) (drF_lt hn)))]
/-! ===== years, over the law's row ===== -/
def ybW (n : Nat) (w : Nat → Int32) (k : Nat) : Nat → Int32 := if mayB (w (3 + 3 * k)) then beW n w k else w
def yW (n : Nat) (w : Nat → Int32) (z : Nat) : Nat → (Nat → Int32)
  | 0 => w
  | i + 1 => psF (ybW n (yW n w z i) (drF n (ySd z (i + 1)))) n
theorem ybW_n {n : Nat} {w : Nat → Int32} {k j : Nat} (h : ¬ j % 3 = 1 ∨ j < 4) : ybW n w k j = w j := by
  unfold ybW
  split
  · exact beW_n h
  · rfl
theorem yW_n {n : Nat} {w : Nat → Int32} {z j : Nat} (h : ¬ j % 3 = 1 ∨ j < 4) : ∀ {i : Nat}, yW n w z i j = w j
  | 0 => rfl
  | i + 1 => by
    show psF _ n j = w j
    rw [psF_n (by omega), ybW_n h, yW_n h]
theorem ybW_g {n : Nat} {w kd ag : Nat → Int32} {k : Nat} (hk : k < n) (e : ∀ j, j < n → kd j = w (3 + 3 * j)) (e2 : ∀ j, j < n → ag j = w (4 + 3 * j)) : ∀ j, j < n → yB n kd ag k j = ybW n w k (4 + 3 * j) := by
  intro j hj
  unfold yB ybW
  rw [e k hk]
  split
  · exact beW_g e e2 j hj
  · exact e2 j hj
theorem yW_g {n : Nat} {w kd ag : Nat → Int32} {z : Nat} (hn : 0 < n) (e : ∀ j, j < n → kd j = w (3 + 3 * j)) (e2 : ∀ j, j < n → ag j = w (4 + 3 * j)) : ∀ {i : Nat}, ∀ j, j < n → yAg n kd ag z i j = yW n w z i (4 + 3 * j)
  | 0 => e2
  | i + 1 => by
    intro j hj
    show groF kd (yB n kd (yAg n kd ag z i) (drF n (ySd z (i + 1)))) n j = psF (ybW n (yW n w z i) (drF n (ySd z (i + 1)))) n (4 + 3 * j)
    rw [psF_g hj, ybW_n (by omega), yW_n (by omega)]
    unfold groF
    rw [if_pos hj, e j hj, ybW_g (w := yW n w z i) (drF_lt hn) (fun j hj => by rw [yW_n (by omega)]; exact e j hj) (yW_g hn e e2) j hj]
def yWf (n : Nat) (w : Nat → Int32) (z : Nat) : Nat → Nat
  | 0 => 0
  | i + 1 => yWf n w z i + wkF n (nwF (ybW n (yW n w z i) (drF n (ySd z (i + 1))))) n
theorem yWf_ok {n : Nat} {w kd ag : Nat → Int32} {z : Nat} (hn : 0 < n) (e : ∀ j, j < n → kd j = w (3 + 3 * j)) (e2 : ∀ j, j < n → ag j = w (4 + 3 * j)) : ∀ {i : Nat}, yFar n kd ag z i = yWf n w z i
  | 0 => rfl
  | i + 1 => by
    simp only [yFar, yWf]
    rw [yWf_ok hn e e2]
    congr 1
    refine wkF_c (fun j hj => ?_)
    unfold nmF nwF
    rw [ybW_n (by omega), yW_n (by omega), e j hj, ybW_g (w := yW n w z i) (drF_lt hn) (fun j hj => by rw [yW_n (by omega)]; exact e j hj) (yW_g hn e e2) j hj]
theorem yWs_ok {n : Nat} {w kd ag : Nat → Int32} {z i : Nat} (hn : 0 < n) (e : ∀ j, j < n → kd j = w (3 + 3 * j)) (e2 : ∀ j, j < n → ag j = w (4 + 3 * j)) : sm (nmF kd (yAg n kd ag z i)) n = sm (nwF (yW n w z i)) n :=
  sm_c (fun j hj => by
    unfold nmF nwF
    rw [yW_n (by omega), e j hj, yW_g hn e e2 j hj])
theorem sd_lr (z : Nat) (hz : z < 2147483648) : (1103515245 : Int64) * lN z + (12345 : Int64) - ((1103515245 : Int64) * lN z + (12345 : Int64)) / (2147483648 : Int64) * (2147483648 : Int64) = lN (sdF z) := by
  rw [show (1103515245 : Int64) = lN 1103515245 from rfl, show (12345 : Int64) = lN 12345 from rfl, show (2147483648 : Int64) = lN 2147483648 from rfl, lN_mul, lN_add]
  exact pk_lRem (by omega) (by omega) (by omega)
/-! ===== the walk: the set of the houses that are left ===== -/
def bsN (p : Nat → Bool) : Nat → Nat
  | 0 => 0
  | k + 1 => bsN p k + (if p k = true then 2 ^ k else 0)
theorem bsN_lt {p : Nat → Bool} : ∀ {k : Nat}, bsN p k < 2 ^ k
  | 0 => Nat.zero_lt_one
  | k + 1 => by
    have := bsN_lt (p := p) (k := k)
    simp only [bsN]
    rw [Nat.pow_succ]
    split <;> omega
theorem bsN_c {p q : Nat → Bool} : ∀ {k : Nat}, (∀ j, j < k → p j = q j) → bsN p k = bsN q k
  | 0, _ => rfl
  | k + 1, h => by
    simp only [bsN]
    rw [bsN_c (fun j hj => h j (by omega)), h k (by omega)]
theorem bsN_bit {p : Nat → Bool} : ∀ {k j : Nat}, j < k → (bsN p k).testBit j = p j
  | 0, j, h => by omega
  | k + 1, j, h => by
    simp only [bsN]
    by_cases hj : j = k
    · subst hj
      have h1 := bsN_lt (p := p) (k := j)
      by_cases hp : p j = true
      · rw [if_pos hp, hp, Nat.add_comm, Nat.testBit_two_pow_add_eq, Nat.testBit_lt_two_pow h1]
        rfl
      · rw [if_neg hp, Nat.add_zero, Nat.testBit_lt_two_pow h1, Bool.eq_false_iff.mpr hp]
    · have hjk : j < k := by omega
      by_cases hp : p k = true
      · rw [if_pos hp, Nat.add_comm, Nat.testBit_two_pow_add_gt hjk, bsN_bit hjk]
      · rw [if_neg hp, Nat.add_zero, bsN_bit hjk]
theorem bsN_rm {p : Nat → Bool} {b : Nat} (hp : p b = true) : ∀ {k : Nat}, b < k → bsN p k = bsN (fun j => p j && !decide (j = b)) k + 2 ^ b
  | 0, h => by omega
  | k + 1, h => by
    simp only [bsN]
    by_cases hb : b = k
    · subst hb
      rw [if_pos hp, if_neg (by simp), bsN_c (q := fun j => p j && !decide (j = b)) (fun j hj => by simp [show ¬ j = b by omega])]
      omega
    · have e9 : (p k && !decide (k = b)) = p k := by simp [show ¬ k = b by omega]
      rw [bsN_rm hp (k := k) (by omega)]
      simp only [e9]
      omega
theorem bsN_0 {p : Nat → Bool} : ∀ {k : Nat}, (∀ j, j < k → p j = false) → bsN p k = 0
  | 0, _ => rfl
  | k + 1, h => by
    simp only [bsN]
    rw [bsN_0 (fun j hj => h j (by omega)), h k (by omega)]
    rfl
theorem bsN_all : ∀ {k : Nat}, bsN (fun _ => true) k = 2 ^ k - 1
  | 0 => rfl
  | k + 1 => by
    simp only [bsN]
    rw [bsN_all, Nat.pow_succ]
    have := Nat.two_pow_pos k
    simp
    omega
/-- the houses that are left before turn t -/
def lfP (n : Nat) (v : Nat → Int32) (t j : Nat) : Bool := decide (t ≤ ordF n v j)
def lfN (n : Nat) (v : Nat → Int32) (t : Nat) : Nat := bsN (lfP n v t) n
theorem lfN_0 {n : Nat} {v : Nat → Int32} : lfN n v 0 = 2 ^ n - 1 := by
  unfold lfN
  rw [bsN_c (p := lfP n v 0) (q := fun _ => true) (fun j _ => decide_eq_true (Nat.zero_le _)), bsN_all]
theorem lfN_n {n : Nat} {v : Nat → Int32} : lfN n v n = 0 := bsN_0 (fun j hj => decide_eq_false (by have := ordF_lt (v := v) hj; omega))
theorem lfN_lt {n : Nat} {v : Nat → Int32} {t : Nat} : lfN n v t < 2 ^ n := bsN_lt
theorem lfN_64 {n : Nat} {v : Nat → Int32} {t : Nat} (hn : n ≤ 6) : lfN n v t < 64 := Nat.lt_of_lt_of_le lfN_lt (two_n hn)
theorem lfN_bit {n : Nat} {v : Nat → Int32} {t j : Nat} (hj : j < n) : (lfN n v t).testBit j = lfP n v t j := bsN_bit hj
theorem lfN_s {n : Nat} {v : Nat → Int32} {t : Nat} (ht : t < n) : lfN n v t = lfN n v (t + 1) + 2 ^ (hotF n v t n) := by
  obtain ⟨h1, h2, h3⟩ := hot_ok (v := v) ht
  unfold lfN
  rw [bsN_rm (b := hotF n v t n) (decide_eq_true (by omega)) h1]
  congr 1
  refine bsN_c (fun j hj => ?_)
  unfold lfP
  by_cases hb : j = hotF n v t n
  · rw [decide_eq_true hb, decide_eq_false (p := t + 1 ≤ _) (by rw [hb, h2]; omega)]
    simp
  · rw [decide_eq_false hb]
    have : ¬ ordF n v j = t := fun q => hb (h3 j hj q)
    rw [Bool.eq_iff_iff]
    simp
    omega
theorem lfN_pos {n : Nat} {v : Nat → Int32} {t : Nat} (ht : t ≤ n) (h : ¬ lfN n v t = 0) : t < n := by
  rcases Nat.lt_or_eq_of_le ht with h1 | h1
  · exact h1
  · subst h1
    exact absurd lfN_n h
theorem lfN_zero {n : Nat} {v : Nat → Int32} {t : Nat} (ht : t ≤ n) (h : lfN n v t = 0) : t = n := by
  rcases Nat.lt_or_eq_of_le ht with h1 | h1
  · have h2 := lfN_s (v := v) h1
    have := Nat.two_pow_pos (hotF n v t n)
    omega
  · exact h1
/-- the last of the least, from the end of the street: among those that have p -/
def lbT (v : Nat → Int32) (k : Nat) : Option Nat → Bool
  | none => true
  | some b => decide (v k ≤ v b)
def lbN (v : Nat → Int32) (p : Nat → Bool) (n : Nat) : Nat → Option Nat
  | 0 => none
  | i + 1 => if p (n - (i + 1)) = true ∧ lbT v (n - (i + 1)) (lbN v p n i) = true then some (n - (i + 1)) else lbN v p n i
theorem lbN_lt {v : Nat → Int32} {p : Nat → Bool} {n : Nat} : ∀ {i b : Nat}, i ≤ n → lbN v p n i = some b → b < n
  | 0, b, _, h => by cases h
  | i + 1, b, hi, h => by
    simp only [lbN] at h
    split at h
    · cases h; omega
    · exact lbN_lt (by omega) h
theorem lbN_ok {v : Nat → Int32} {p : Nat → Bool} {n : Nat} : ∀ {i : Nat}, i ≤ n → (lbN v p n i = none ∧ ∀ j, n - i ≤ j → j < n → p j = false) ∨ ∃ b, lbN v p n i = some b ∧ n - i ≤ b ∧ b < n ∧ p b = true ∧ ∀ j, n - i ≤ j → j < n → p j = true → ¬ j = b → ordP v j b = true
  | 0, _ => Or.inl ⟨rfl, fun j h1 h2 => by omega⟩
  | i + 1, hi => by
    have ih := lbN_ok (v := v) (p := p) (n := n) (i := i) (by omega)
    simp only [lbN]
    rcases ih with ⟨e, h⟩ | ⟨b, e, h1, h2, h3, h4⟩
    · rw [e]
      by_cases hp : p (n - (i + 1)) = true
      · rw [if_pos ⟨hp, rfl⟩]
        refine Or.inr ⟨_, rfl, Nat.le_refl _, by omega, hp, fun j a b c d => ?_⟩
        rw [h j (by omega) b] at c
        cases c
      · rw [if_neg (fun q => hp q.1)]
        refine Or.inl ⟨rfl, fun j a b => ?_⟩
        by_cases hj : j = n - (i + 1)
        · rw [hj]; exact Bool.eq_false_iff.mpr hp
        · exact h j (by omega) b
    · rw [e]
      by_cases hc : p (n - (i + 1)) = true ∧ lbT v (n - (i + 1)) (some b) = true
      · rw [if_pos hc]
        have hle : v (n - (i + 1)) ≤ v b := of_decide_eq_true hc.2
        refine Or.inr ⟨_, rfl, Nat.le_refl _, by omega, hc.1, fun j a1 a2 a3 a4 => ?_⟩
        by_cases hjb : j = b
        · subst hjb
          rcases Int32.lt_or_eq_of_le hle with q | q
          · exact decide_eq_true (Or.inl q)
          · exact decide_eq_true (Or.inr ⟨q, by omega⟩)
        · have h5 := h4 j (by omega) a2 a3 hjb
          refine ordP_tr (b := b) ?_ h5
          rcases Int32.lt_or_eq_of_le hle with q | q
          · exact decide_eq_true (Or.inl q)
          · exact decide_eq_true (Or.inr ⟨q, by omega⟩)
      · rw [if_neg hc]
        refine Or.inr ⟨b, rfl, by omega, h2, h3, fun j a1 a2 a3 a4 => ?_⟩
        by_cases hj : j = n - (i + 1)
        · subst hj
          have : ¬ v (n - (i + 1)) ≤ v b := fun q => hc ⟨a3, decide_eq_true q⟩
          exact decide_eq_true (Or.inl (Int32.not_le.mp this))
        · exact h4 j (by omega) a2 a3 a4
theorem lbN_hot {n : Nat} {v : Nat → Int32} {t : Nat} (ht : t < n) : lbN v (lfP n v t) n n = some (hotF n v t n) := by
  obtain ⟨h1, h2, h3⟩ := hot_ok (v := v) ht
  have hp : lfP n v t (hotF n v t n) = true := decide_eq_true (by omega)
  rcases lbN_ok (v := v) (p := lfP n v t) (n := n) (i := n) (Nat.le_refl _) with ⟨e, h⟩ | ⟨b, e, -, g2, g3, g4⟩
  · rw [h _ (by omega) h1] at hp
    cases hp
  · rw [e]
    congr 1
    apply Classical.byContradiction
    intro hne
    have h5 := g4 _ (by omega) h1 hp (fun q => hne q.symm)
    have h6 : ordF n v b < ordF n v (hotF n v t n) := cn_lt (p := ordP v b) (q := ordP v (hotF n v t n)) g2 ordP_irr h5 (fun j _ hj => ordP_tr hj h5)
    have h7 : t ≤ ordF n v b := of_decide_eq_true g3
    omega
theorem o2i_neg {o : Option Nat} (h : o2i o < 0) (hb : ∀ b, o = some b → b < 2147483648) : o = none := by
  cases o with
  | none => rfl
  | some b => exact absurd h (nI_pos (hb b rfl))
theorem o2i_nn {o : Option Nat} (h : ¬ o2i o < 0) : ∃ b, o = some b := by
  cases o with
  | none => exact absurd (by decide) h
  | some b => exact ⟨b, rfl⟩
theorem lb_f {v : Nat → Int32} {p : Nat → Bool} {n i k : Nat} (ek : n - i = k + 1) (h : ¬ p k = true) : lbN v p n (i + 1) = lbN v p n i := by
  have e : n - (i + 1) = k := by omega
  simp only [lbN]
  rw [e, if_neg (fun q => h q.1)]
theorem lb_t {v : Nat → Int32} {p : Nat → Bool} {n i k : Nat} (ek : n - i = k + 1) (h : p k = true) (h2 : lbT v k (lbN v p n i) = true) : lbN v p n (i + 1) = some k := by
  have e : n - (i + 1) = k := by omega
  simp only [lbN]
  rw [e, if_pos ⟨h, h2⟩]
theorem lb_g {v : Nat → Int32} {p : Nat → Bool} {n i k : Nat} (ek : n - i = k + 1) (h2 : ¬ lbT v k (lbN v p n i) = true) : lbN v p n (i + 1) = lbN v p n i := by
  have e : n - (i + 1) = k := by omega
  simp only [lbN]
  rw [e, if_neg (fun q => h2 q.2)]
theorem fd1 {p : Nat → Bool} {N i k : Nat} (ek : N - i = k + 1) (h : ¬ p k = true) : ff p (N - (i + 1)) (i + 1) = ff p (N - i) i := by
  rw [show N - (i + 1) = k by omega, ff_f (Bool.eq_false_iff.mpr h), ek]
theorem fd2 {p : Nat → Bool} {N i k : Nat} (ek : N - i = k + 1) (h : p k = true) : ff p (N - (i + 1)) (i + 1) = nI k := by
  rw [show N - (i + 1) = k by omega, ff_t h]
