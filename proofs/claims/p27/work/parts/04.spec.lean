/-! ===== what the answers are, in numbers: shared by class and reference ===== -/
/-- how many j < n have p -/
def cn (p : Nat → Bool) : Nat → Nat
  | 0 => 0
  | k + 1 => cn p k + (if p k = true then 1 else 0)
theorem cn_t {p : Nat → Bool} {k : Nat} (h : p k = true) : cn p (k + 1) = cn p k + 1 := by simp [cn, h]
theorem cn_f {p : Nat → Bool} {k : Nat} (h : p k = false) : cn p (k + 1) = cn p k := by simp [cn, h]
theorem cn_le (p : Nat → Bool) : ∀ k, cn p k ≤ k
  | 0 => Nat.le_refl 0
  | k + 1 => by
    have := cn_le p k
    simp only [cn]
    split <;> omega
theorem cn_c {p q : Nat → Bool} : ∀ {k : Nat}, (∀ j, j < k → p j = q j) → cn p k = cn q k
  | 0, _ => rfl
  | k + 1, h => by
    simp only [cn]
    rw [cn_c (k := k) (fun j hj => h j (by omega)), h k (by omega)]
/-- the first j of lo, lo+1 .. (n of them) that has p; -1: none -/
def ff (p : Nat → Bool) (lo : Nat) : Nat → Int32
  | 0 => -1
  | n + 1 => if p lo = true then nI lo else ff p (lo + 1) n
theorem ff_0 {p : Nat → Bool} {lo : Nat} : ff p lo 0 = -1 := rfl
theorem ff_t {p : Nat → Bool} {lo n : Nat} (h : p lo = true) : ff p lo (n + 1) = nI lo := by simp [ff, h]
theorem ff_f {p : Nat → Bool} {lo n : Nat} (h : p lo = false) : ff p lo (n + 1) = ff p (lo + 1) n := by simp [ff, h]
theorem ff_go {p : Nat → Bool} {n : Nat} : ∀ {j : Nat}, j ≤ n → (∀ i, i < j → p i = false) → ff p 0 n = ff p j (n - j)
  | 0, _, _ => rfl
  | j + 1, hj, h => by
    rw [ff_go (j := j) (by omega) (fun i hi => h i (by omega)), show n - j = (n - (j + 1)) + 1 by omega, ff_f (h j (by omega))]
theorem ff_at {p : Nat → Bool} {n j : Nat} (hj : j < n) (h : ∀ i, i < j → p i = false) (hp : p j = true) : ff p 0 n = nI j := by
  rw [ff_go (by omega) h, show n - j = (n - j - 1) + 1 by omega, ff_t hp]
theorem ff_no {p : Nat → Bool} {n : Nat} (h : ∀ i, i < n → p i = false) : ff p 0 n = -1 := by
  rw [ff_go (Nat.le_refl n) h, Nat.sub_self, ff_0]
theorem ff_c {p q : Nat → Bool} : ∀ {n lo : Nat}, (∀ j, lo ≤ j → j < lo + n → p j = q j) → ff p lo n = ff q lo n
  | 0, _, _ => rfl
  | n + 1, lo, h => by
    simp only [ff]
    rw [h lo (Nat.le_refl _) (by omega), ff_c (n := n) (lo := lo + 1) (fun j h1 h2 => h j (by omega) (by omega))]
theorem ff_cases (p : Nat → Bool) : ∀ (n lo : Nat), (ff p lo n = -1 ∧ ∀ j, lo ≤ j → j < lo + n → p j = false) ∨ ∃ j, lo ≤ j ∧ j < lo + n ∧ ff p lo n = nI j ∧ p j = true ∧ ∀ i, lo ≤ i → i < j → p i = false
  | 0, lo => Or.inl ⟨rfl, fun j h1 h2 => by omega⟩
  | n + 1, lo => by
    by_cases h : p lo = true
    · exact Or.inr ⟨lo, Nat.le_refl _, by omega, ff_t h, h, fun i h1 h2 => by omega⟩
    · have h := Bool.eq_false_iff.mpr h
      rcases ff_cases p n (lo + 1) with ⟨h1, h2⟩ | ⟨j, h1, h2, h3, h4, h5⟩
      · refine Or.inl ⟨by rw [ff_f h]; exact h1, fun j a b => ?_⟩
        by_cases hj : j = lo
        · rw [hj]; exact h
        · exact h2 j (by omega) (by omega)
      · refine Or.inr ⟨j, by omega, by omega, by rw [ff_f h]; exact h3, h4, fun i a b => ?_⟩
        by_cases hi : i = lo
        · rw [hi]; exact h
        · exact h5 i (by omega) (by omega)
/-- the sum of f below n -/
def sm (f : Nat → Int32) : Nat → Int32
  | 0 => nI 0
  | k + 1 => sm f k + f k
theorem sm_c {f g : Nat → Int32} : ∀ {k : Nat}, (∀ j, j < k → f j = g j) → sm f k = sm g k
  | 0, _ => rfl
  | k + 1, h => by
    simp only [sm]
    rw [sm_c (k := k) (fun j hj => h j (by omega)), h k (by omega)]
/-- all j < n have p -/
def al (p : Nat → Bool) : Nat → Bool
  | 0 => true
  | k + 1 => al p k && p k
theorem al_iff {p : Nat → Bool} : ∀ {n : Nat}, al p n = true ↔ ∀ j, j < n → p j = true
  | 0 => ⟨fun _ j hj => by omega, fun _ => rfl⟩
  | n + 1 => by
    simp only [al, Bool.and_eq_true]
    rw [al_iff (n := n)]
    refine ⟨fun h j hj => ?_, fun h => ⟨fun j hj => h j (by omega), h n (by omega)⟩⟩
    by_cases hjn : j = n
    · rw [hjn]; exact h.2
    · exact h.1 j (by omega)
theorem al_no {p : Nat → Bool} {n j : Nat} (hj : j < n) (h : p j = false) : al p n = false := by
  rw [Bool.eq_false_iff]
  intro q
  rw [al_iff.mp q j hj] at h
  cases h
theorem al_c {p q : Nat → Bool} {n : Nat} (h : ∀ j, j < n → p j = q j) : al p n = al q n := by
  rw [Bool.eq_iff_iff, al_iff, al_iff]
  exact ⟨fun a j hj => by rw [← h j hj]; exact a j hj, fun a j hj => by rw [h j hj]; exact a j hj⟩
/-- the greatest of f below n, 0 at least -/
def mxF (f : Nat → Nat) : Nat → Nat
  | 0 => 0
  | k + 1 => max (mxF f k) (f k)
theorem mxF_le {f : Nat → Nat} {b : Nat} : ∀ {n : Nat}, (∀ j, j < n → f j ≤ b) → mxF f n ≤ b
  | 0, _ => Nat.zero_le _
  | n + 1, h => Nat.max_le.mpr ⟨mxF_le (fun j hj => h j (by omega)), h n (by omega)⟩
theorem mxF_ge {f : Nat → Nat} : ∀ {n j : Nat}, j < n → f j ≤ mxF f n
  | 0, _, h => by omega
  | n + 1, j, h => by
    by_cases hj : j = n
    · rw [hj]; exact Nat.le_max_right _ _
    · exact Nat.le_trans (mxF_ge (n := n) (j := j) (by omega)) (Nat.le_max_left _ _)
/-- a house's place is told by x -/
abbrev hIn (n : Nat) (x : Int32) : Prop := nI 0 ≤ x ∧ x < nI n
theorem hIn_of {n : Nat} {x : Int32} (h : hIn n x) (hn : n < 2147483648) : ∃ j : Nat, j < n ∧ x = nI j := by
  rcases pk_ix x (n := n) hn with h1 | h1 | h1
  · exact absurd h1 (Int32.not_lt.mpr h.1)
  · exact absurd h.2 (Int32.not_lt.mpr h1)
  · exact h1
theorem hIn_nI {n j : Nat} (hj : j < n) (hn : n < 2147483648) : hIn n (nI j) := ⟨nI_pos' (by omega), nI_lt hj hn⟩
theorem hIn_iff {n j : Nat} (hj : j < 2147483648) (hn : n < 2147483648) : hIn n (nI j) ↔ j < n := ⟨fun h => (nI_ltI hj hn).mp h.2, fun h => hIn_nI h hn⟩
/-- a house's number by its kind and age -/
def numF (k a : Int32) : Int32 := if k = nI 1 then a / nI 2 else a
def nmF (kd ag : Nat → Int32) (j : Nat) : Int32 := numF (kd j) (ag j)
/-- the age a day later -/
def nxF (k a : Int32) : Int32 := if k = nI 4 then a else a + nI 1
abbrev mayB (k : Int32) : Prop := ¬ (k = nI 2 ∨ k = nI 4)
abbrev lendF (n : Nat) (kd : Nat → Int32) (h : Nat) : Prop := h + 1 < n ∧ kd (h + 1) = nI 3
def bearF (n : Nat) (kd ag : Nat → Int32) (h : Nat) : Nat → Int32 := if lendF n kd h then upd (upd ag h (nI 0)) (h + 1) (nI 0) else upd ag h (nI 0)
/-- the places below k are a day older -/
def groF (kd ag : Nat → Int32) (k : Nat) : Nat → Int32 := fun j => if j < k then nxF (kd j) (ag j) else ag j
/-- the place in the walk -/
def ordP (v : Nat → Int32) (h : Nat) (j : Nat) : Bool := decide (v j < v h ∨ v j = v h ∧ j < h)
def ordF (n : Nat) (v : Nat → Int32) (h : Nat) : Nat := cn (ordP v h) n
theorem ordF_le {n : Nat} {v : Nat → Int32} {h : Nat} : ordF n v h ≤ n := cn_le _ _
/-- the house of a turn (0: none) -/
def hotF (n : Nat) (v : Nat → Int32) (t : Nat) : Nat → Nat
  | 0 => 0
  | k + 1 => if ordF n v (n - (k + 1)) = t then n - (k + 1) else hotF n v t k
def dstF (a b : Nat) : Nat := if b < a then a - b else b - a
def wkP (n : Nat) (v : Nat → Int32) : Nat → Nat
  | 0 => 0
  | t + 1 => hotF n v t n
def wkF (n : Nat) (v : Nat → Int32) : Nat → Nat
  | 0 => 0
  | t + 1 => wkF n v t + dstF (hotF n v t n) (wkP n v t)
/-- a house's number in the end of day d -/
def ageOn (ag pa : Nat → Int32) (td h d : Nat) : Int32 := if d = td then ag h else pa (6 * d + h)
def numOn (kd ag pa : Nat → Int32) (td h d : Nat) : Int32 := numF (kd h) (ageOn ag pa td h d)
/-- the house of least place with a number -/
def hwP (v : Nat → Int32) (x : Int32) (h : Nat) : Bool := decide (v h = x)
def hwF (n : Nat) (v : Nat → Int32) (x : Int32) : Int32 := ff (hwP v x) 0 n
/-- what a house owes -/
def owF (n : Nat) (v : Nat → Int32) (dm dn : Nat → Int32) (nd h : Nat) : Int32 := sm (fun k => if hwF n v (dn k) = nI h then dm k else nI 0) nd
def owA (n : Nat) (v : Nat → Int32) (dm dn : Nat → Int32) (nd : Nat) : Int32 := sm (fun h => owF n v dm dn nd h) n
def unF (n : Nat) (v : Nat → Int32) : Nat := cn (fun h => decide (hwF n v (v h) = nI h)) n
/-- when -/
def agF (k a : Int32) (d : Nat) : Int32 := if k = nI 4 then a else a + nI d
def whF (k a x : Int32) : Int32 := ff (fun d => decide (numF k (agF k a d) = x)) 0 100
/-- can a day be the one of which all is heard -/
def cbP (kd ag pa hh hn : Nat → Int32) (td d k : Nat) : Bool := decide (numOn kd ag pa td (hh k).toNatClampNeg d = hn k)
def cbF (kd ag pa hh hn : Nat → Int32) (td nh d : Nat) : Bool := al (cbP kd ag pa hh hn td d) nh
abbrev hOK (n : Nat) (hh : Nat → Int32) (nh : Nat) : Prop := ∀ k, k < nh → (hh k).toNatClampNeg < n ∧ hh k = nI (hh k).toNatClampNeg
/-- how many j of lo, lo+1 .. (n of them) have p -/
def cr (p : Nat → Bool) (lo : Nat) : Nat → Nat
  | 0 => 0
  | n + 1 => cr p (lo + 1) n + (if p lo = true then 1 else 0)
/-- about, as, then, goesTo, when, days, ask, count -/
def abF (n : Nat) (kd ag bo dm dn : Nat → Int32) (nd h : Nat) : Nat → Int32
  | 0 => kd h
  | 1 => ag h
  | 2 => nmF kd ag h
  | 3 => bo h
  | 4 => owF n (nmF kd ag) dm dn nd h
  | _ => nI (ordF n (nmF kd ag) h)
abbrev x_in (x : Int32) (k : Nat) : Prop := nI 0 ≤ x ∧ x ≤ nI k
abbrev dIn (n td : Nat) (d : Int32) : Prop := 0 < n ∧ nI 0 ≤ d ∧ d ≤ nI td
def abtF (n : Nat) (kd ag bo dm dn : Nat → Int32) (nd : Nat) (x w : Int32) : Int32 := if hIn n x then (if x_in w 5 then abF n kd ag bo dm dn nd x.toNatClampNeg w.toNatClampNeg else -102) else -101
def asF (n : Nat) (kd : Nat → Int32) (x k : Int32) : Int32 := if hIn n x then (if x_in k 4 then (if k = nI 0 ∨ kd x.toNatClampNeg = k ∨ k = nI 2 ∧ kd x.toNatClampNeg = nI 4 then x else -1) else -102) else -101
def thF (n td : Nat) (kd ag pa : Nat → Int32) (x d : Int32) : Int32 := if hIn n x ∧ dIn n td d then numOn kd ag pa td x.toNatClampNeg d.toNatClampNeg else -101
def goF (n td : Nat) (kd ag pa : Nat → Int32) (x d : Int32) : Int32 := if dIn n td d then hwF n (fun h => numOn kd ag pa td h d.toNatClampNeg) x else -101
def whnF (n : Nat) (kd ag : Nat → Int32) (x y : Int32) : Int32 := if hIn n x then whF (kd x.toNatClampNeg) (ag x.toNatClampNeg) y else -101
def dyF (cb : Nat → Bool) (td : Nat) (w : Int32) : Int32 := if w = nI 0 then nI (cn cb (td + 1)) else ff cb 0 (td + 1)
def dysF (n : Nat) (cb : Nat → Bool) (td : Nat) (w : Int32) : Int32 := if x_in w 1 then (if n = 0 then -103 else dyF cb td w) else -102
/-- how many days can be that have the number of day a (v: the house's numbers) -/
def woQ (cb : Nat → Bool) (v : Nat → Int32) (a b : Nat) : Bool := cb b && decide (v a = v b)
def woP (cb : Nat → Bool) (v : Nat → Int32) (td a : Nat) : Nat := if cb a = true then cn (woQ cb v a) (td + 1) else 0
def woF (cb : Nat → Bool) (v : Nat → Int32) (td : Nat) : Nat := mxF (woP cb v td) (td + 1)
def asL (w : Nat → Nat) (f0 : Nat) : Nat → Nat
  | 0 => f0
  | h + 1 => if w h < asL w f0 h then w h else asL w f0 h
def asB (w : Nat → Nat) (f0 : Nat) : Nat → Int32
  | 0 => -1
  | h + 1 => if w h < asL w f0 h then nI h else asB w f0 h
abbrev nOf (kd ag pa : Nat → Int32) (td h : Nat) : Nat → Int32 := fun d => numOn kd ag pa td h d
def f0F (cb : Nat → Bool) (td : Nat) : Nat := if cn cb (td + 1) = 0 then 0 else 268435456
def askF (n : Nat) (kd ag pa : Nat → Int32) (cb : Nat → Bool) (td : Nat) : Int32 := asB (fun h => woF cb (nOf kd ag pa td h) td) (f0F cb td) n
def hmF (n td : Nat) (bs : Int32) (kd ag dm dn : Nat → Int32) (nd nh pl st : Nat) : Nat → Int32
  | 0 => nI n
  | 1 => nI td
  | 2 => bs
  | 3 => sm (nmF kd ag) n
  | 4 => nI (unF n (nmF kd ag))
  | 5 => nI nd
  | 6 => owA n (nmF kd ag) dm dn nd
  | 7 => nI nh
  | 8 => nI pl
  | _ => nI st
def cntF (n td : Nat) (bs : Int32) (kd ag dm dn : Nat → Int32) (nd nh pl st : Nat) (w : Int32) : Int32 := if x_in w 9 then hmF n td bs kd ag dm dn nd nh pl st w.toNatClampNeg else -102
/-- is a house in a set -/
abbrev biS (set h : Nat) : Prop := set.testBit h = true
def popF (set : Nat) : Nat := cn (fun k => set.testBit k) 6
/-- the page: the first place that does not have p (lo + n: none) -/
def fz (p : Nat → Bool) (lo : Nat) : Nat → Nat
  | 0 => lo
  | n + 1 => if p lo = true then fz p (lo + 1) n else lo
def kindF (c : Nat) : Int32 := if c = 104 then 0 else if c = 116 then 1 else if c = 109 then 2 else if c = 99 then 3 else if c = 98 then 4 else -1
abbrev pgOK (pg : Nat → Int32) (pl : Nat) : Prop := ∀ k, k < pl → pg k = nI (pg k).toNatClampNeg ∧ 32 ≤ (pg k).toNatClampNeg ∧ (pg k).toNatClampNeg ≤ 126
/-- a letter may be at its place -/
def gdM (pg : Nat → Int32) (k : Nat) : Bool := if k % 3 = 0 then !decide (kindF (pg k).toNatClampNeg = -1) else if k % 3 = 1 then decide (48 ≤ (pg k).toNatClampNeg ∧ (pg k).toNatClampNeg ≤ 57) else decide ((pg k).toNatClampNeg = 44 ∧ k < 17)
def gdX (k c : Nat) : Bool := decide (k < 17) && (if k % 3 = 0 then !decide (kindF c = -1) else if k % 3 = 1 then decide (48 ≤ c ∧ c ≤ 57) else decide (c = 44))
def ftF (pg : Nat → Int32) (pl : Nat) : Nat := fz (fun k => gdX k (pg k).toNatClampNeg) 0 pl
