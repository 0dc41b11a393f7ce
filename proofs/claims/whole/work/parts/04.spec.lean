/-! ===== what the answers are, in numbers: shared by class and reference ===== -/
/-- how many j < n have p -/
def cn (p : Nat → Bool) : Nat → Nat
  | 0 => 0
  | k + 1 => cn p k + (if p k = true then 1 else 0)
theorem cn_t {p : Nat → Bool} {k : Nat} (h : p k = true) : cn p (k + 1) = cn p k + 1 := by simp [cn, h]
theorem cn_f {p : Nat → Bool} {k : Nat} (h : p k = false) : cn p (k + 1) = cn p k := by simp [cn, h]
theorem cn_le (p : Nat → Bool) : ∀ k, cn p k ≤ k
  | 0 => Nat.le_refl 0
  | k + 1 => by
    have := cn_le p k
    simp only [cn]
    split <;> omega
theorem cn_c {p q : Nat → Bool} : ∀ {k : Nat}, (∀ j, j < k → p j = q j) → cn p k = cn q k
  | 0, _ => rfl
  | k + 1, h => by
    simp only [cn]
    rw [cn_c (k := k) (fun j hj => h j (by omega)), h k (by omega)]
/-- the first j of lo, lo+1 .. (n of them) that has p; -1: none -/
def ff (p : Nat → Bool) (lo : Nat) : Nat → Int32
  | 0 => -1
  | n + 1 => if p lo = true then nI lo else ff p (lo + 1) n
theorem ff_0 {p : Nat → Bool} {lo : Nat} : ff p lo 0 = -1 := rfl
theorem ff_t {p : Nat → Bool} {lo n : Nat} (h : p lo = true) : ff p lo (n + 1) = nI lo := by simp [ff, h]
theorem ff_f {p : Nat → Bool} {lo n : Nat} (h : p lo = false) : ff p lo (n + 1) = ff p (lo + 1) n := by simp [ff, h]
theorem ff_go {p : Nat → Bool} {n : Nat} : ∀ {j : Nat}, j ≤ n → (∀ i, i < j → p i = false) → ff p 0 n = ff p j (n - j)
  | 0, _, _ => rfl
  | j + 1, hj, h => by
    rw [ff_go (j := j) (by omega) (fun i hi => h i (by omega)), show n - j = (n - (j + 1)) + 1 by omega, ff_f (h j (by omega))]
theorem ff_at {p : Nat → Bool} {n j : Nat} (hj : j < n) (h : ∀ i, i < j → p i = false) (hp : p j = true) : ff p 0 n = nI j := by
  rw [ff_go (by omega) h, show n - j = (n - j - 1) + 1 by omega, ff_t hp]
theorem ff_no {p : Nat → Bool} {n : Nat} (h : ∀ i, i < n → p i = false) : ff p 0 n = -1 := by
  rw [ff_go (Nat.le_refl n) h, Nat.sub_self, ff_0]
theorem ff_c {p q : Nat → Bool} : ∀ {n lo : Nat}, (∀ j, lo ≤ j → j < lo + n → p j = q j) → ff p lo n = ff q lo n
  | 0, _, _ => rfl
  | n + 1, lo, h => by
    simp only [ff]
    rw [h lo (Nat.le_refl _) (by omega), ff_c (n := n) (lo := lo + 1) (fun j h1 h2 => h j (by omega) (by omega))]
theorem ff_cases (p : Nat → Bool) : ∀ (n lo : Nat), (ff p lo n = -1 ∧ ∀ j, lo ≤ j → j < lo + n → p j = false) ∨ ∃ j, lo ≤ j ∧ j < lo + n ∧ ff p lo n = nI j ∧ p j = true ∧ ∀ i, lo ≤ i → i < j → p i = false
  | 0, lo => Or.inl ⟨rfl, fun j h1 h2 => by omega⟩
  | n + 1, lo => by
    by_cases h : p lo = true
    · exact Or.inr ⟨lo, Nat.le_refl _, by omega, ff_t h, h, fun i h1 h2 => by omega⟩
    · have h := Bool.eq_false_iff.mpr h
      rcases ff_cases p n (lo + 1) with ⟨h1, h2⟩ | ⟨j, h1, h2, h3, h4, h5⟩
      · refine Or.inl ⟨by rw [ff_f h]; exact h1, fun j a b => ?_⟩
        by_cases hj : j = lo
        · rw [hj]; exact h
        · exact h2 j (by omega) (by omega)
      · refine Or.inr ⟨j, by omega, by omega, by rw [ff_f h]; exact h3, h4, fun i a b => ?_⟩
        by_cases hi : i = lo
        · rw [hi]; exact h
        · exact h5 i (by omega) (by omega)
/-- the sum of f below n -/
def sm (f : Nat → Int32) : Nat → Int32
  | 0 => 0
  | k + 1 => sm f k + f k
theorem sm_c {f g : Nat → Int32} : ∀ {k : Nat}, (∀ j, j < k → f j = g j) → sm f k = sm g k
  | 0, _ => rfl
  | k + 1, h => by
    simp only [sm]
    rw [sm_c (k := k) (fun j hj => h j (by omega)), h k (by omega)]
/-- all j < n have p -/
def al (p : Nat → Bool) : Nat → Bool
  | 0 => true
  | k + 1 => al p k && p k
theorem al_iff {p : Nat → Bool} : ∀ {n : Nat}, al p n = true ↔ ∀ j, j < n → p j = true
  | 0 => ⟨fun _ j hj => by omega, fun _ => rfl⟩
  | n + 1 => by
    simp only [al, Bool.and_eq_true]
    rw [al_iff (n := n)]
    refine ⟨fun h j hj => ?_, fun h => ⟨fun j hj => h j (by omega), h n (by omega)⟩⟩
    by_cases hjn : j = n
    · rw [hjn]; exact h.2
    · exact h.1 j (by omega)
theorem al_no {p : Nat → Bool} {n j : Nat} (hj : j < n) (h : p j = false) : al p n = false := by
  rw [Bool.eq_false_iff]
  intro q
  rw [al_iff.mp q j hj] at h
  cases h
theorem al_c {p q : Nat → Bool} {n : Nat} (h : ∀ j, j < n → p j = q j) : al p n = al q n := by
  rw [Bool.eq_iff_iff, al_iff, al_iff]
  exact ⟨fun a j hj => by rw [← h j hj]; exact a j hj, fun a j hj => by rw [h j hj]; exact a j hj⟩
/-- the greatest of f below n, 0 at least -/
def mxF (f : Nat → Nat) : Nat → Nat
  | 0 => 0
  | k + 1 => max (mxF f k) (f k)
theorem mxF_le {f : Nat → Nat} {b : Nat} : ∀ {n : Nat}, (∀ j, j < n → f j ≤ b) → mxF f n ≤ b
  | 0, _ => Nat.zero_le _
  | n + 1, h => Nat.max_le.mpr ⟨mxF_le (fun j hj => h j (by omega)), h n (by omega)⟩
theorem mxF_ge {f : Nat → Nat} : ∀ {n j : Nat}, j < n → f j ≤ mxF f n
  | 0, _, h => by omega
  | n + 1, j, h => by
    by_cases hj : j = n
    · rw [hj]; exact Nat.le_max_right _ _
    · exact Nat.le_trans (mxF_ge (n := n) (j := j) (by omega)) (Nat.le_max_left _ _)
/-- a house's place is told by x -/
abbrev hIn (n : Nat) (x : Int32) : Prop := 0 ≤ x ∧ x < nI n
theorem hIn_of {n : Nat} {x : Int32} (h : hIn n x) (hn : n < 2147483648) : ∃ j : Nat, j < n ∧ x = nI j := by
  rcases pk_ix x (n := n) hn with h1 | h1 | h1
  · exact absurd h1 (Int32.not_lt.mpr h.1)
  · exact absurd h.2 (Int32.not_lt.mpr h1)
  · exact h1
theorem hIn_nI {n j : Nat} (hj : j < n) (hn : n < 2147483648) : hIn n (nI j) := ⟨nI_pos' (by omega), nI_lt hj hn⟩
theorem hIn_iff {n j : Nat} (hj : j < 2147483648) (hn : n < 2147483648) : hIn n (nI j) ↔ j < n := ⟨fun h => (nI_ltI hj hn).mp h.2, fun h => hIn_nI h hn⟩
/-- a house's number by its kind and age -/
def numF (k a : Int32) : Int32 := if k = 1 then a / 2 else a
def nmF (kd ag : Nat → Int32) (j : Nat) : Int32 := numF (kd j) (ag j)
/-- the age a day later -/
def nxF (k a : Int32) : Int32 := if k = 4 then a else a + 1
abbrev mayB (k : Int32) : Prop := ¬ (k = 2 ∨ k = 4)
abbrev lendF (n : Nat) (kd : Nat → Int32) (h : Nat) : Prop := h + 1 < n ∧ kd (h + 1) = 3
def bearF (n : Nat) (kd ag : Nat → Int32) (h : Nat) : Nat → Int32 := if lendF n kd h then upd (upd ag h 0) (h + 1) 0 else upd ag h 0
/-- the places below k are a day older -/
def groF (kd ag : Nat → Int32) (k : Nat) : Nat → Int32 := fun j => if j < k then nxF (kd j) (ag j) else ag j
/-- the place in the walk -/
def ordP (v : Nat → Int32) (h : Nat) (j : Nat) : Bool := decide (v j < v h ∨ v j = v h ∧ j < h)
def ordF (n : Nat) (v : Nat → Int32) (h : Nat) : Nat := cn (ordP v h) n
theorem ordF_le {n : Nat} {v : Nat → Int32} {h : Nat} : ordF n v h ≤ n := cn_le _ _
/-- the house of a turn (0: none) -/
def hotF (n : Nat) (v : Nat → Int32) (t : Nat) : Nat → Nat
  | 0 => 0
  | k + 1 => if ordF n v (n - (k + 1)) = t then n - (k + 1) else hotF n v t k
def dstF (a b : Nat) : Nat := if b < a then a - b else b - a
def wkP (n : Nat) (v : Nat → Int32) : Nat → Nat
  | 0 => 0
  | t + 1 => hotF n v t n
def wkF (n : Nat) (v : Nat → Int32) : Nat → Nat
  | 0 => 0
  | t + 1 => wkF n v t + dstF (hotF n v t n) (wkP n v t)
/-- a house's number in the end of day d -/
def ageOn (ag pa : Nat → Int32) (td h d : Nat) : Int32 := if d = td then ag h else pa (6 * d + h)
def numOn (kd ag pa : Nat → Int32) (td h d : Nat) : Int32 := numF (kd h) (ageOn ag pa td h d)
/-- the house of least place with a number -/
def hwP (v : Nat → Int32) (x : Int32) (h : Nat) : Bool := decide (v h = x)
def hwF (n : Nat) (v : Nat → Int32) (x : Int32) : Int32 := ff (hwP v x) 0 n
/-- what a house owes -/
def owF (n : Nat) (v : Nat → Int32) (dm dn : Nat → Int32) (nd h : Nat) : Int32 := sm (fun k => if hwF n v (dn k) = nI h then dm k else 0) nd
def owA (n : Nat) (v : Nat → Int32) (dm dn : Nat → Int32) (nd : Nat) : Int32 := sm (fun h => owF n v dm dn nd h) n
def unF (n : Nat) (v : Nat → Int32) : Nat := cn (fun h => decide (hwF n v (v h) = nI h)) n
/-- when -/
def agF (k a : Int32) (d : Nat) : Int32 := if k = 4 then a else a + nI d
def whF (k a x : Int32) : Int32 := ff (fun d => decide (numF k (agF k a d) = x)) 0 100
/-- can a day be the one of which all is heard -/
def cbF (kd ag pa hh hn : Nat → Int32) (td nh d : Nat) : Bool := al (fun k => decide (numOn kd ag pa td (hh k).toNatClampNeg d = hn k)) nh
/-- is a house in a set -/
abbrev biS (set h : Nat) : Prop := set.testBit h = true
