/-! ===== what calls do to the state, in numbers ===== -/
theorem by_of {x : Int32} {lo hi : Nat} (h : nI lo ≤ x ∧ x ≤ nI hi) (hl : lo < 2147483648) (hh : hi < 2147483647) : ∃ c : Nat, lo ≤ c ∧ c ≤ hi ∧ x = nI c := by
  obtain ⟨c, hc, rfl⟩ := x_in_of (x := x) (k := hi) ⟨Int32.le_trans (nI_le (Nat.zero_le lo) hl) h.1, h.2⟩ hh
  exact ⟨c, (nI_leI hl (by omega)).mp h.1, hc, rfl⟩
theorem by_nI {c lo hi : Nat} (h1 : lo ≤ c) (h2 : c ≤ hi) (hh : hi < 2147483648) : nI lo ≤ nI c ∧ nI c ≤ nI hi := ⟨nI_le h1 (by omega), nI_le h2 hh⟩
def letF (pg : Nat → Int32) (pl : Nat) (x : Int32) : Int32 × (Nat → Int32) × Nat := if nI 32 ≤ x ∧ x ≤ nI 126 then (if pl = 19 then (-104, pg, pl) else (nI (pl + 1), upd pg pl x, pl + 1)) else (-102, pg, pl)
theorem byte_ok : ∀ c, c ≤ 126 → vp_nar .byte ((nI c).toInt8.toInt32) = nI c := by
  intro c hc
  rw [vp_nar_byte]
  revert c
  decide +kernel
theorem bear_t {n : Nat} {kd ag : Nat → Int32} {h : Nat} (q : lendF n kd h) : bearF n kd ag h = upd (upd ag h (nI 0)) (h + 1) (nI 0) := if_pos q
theorem bear_f {n : Nat} {kd ag : Nat → Int32} {h : Nat} (q : ¬ lendF n kd h) : bearF n kd ag h = upd ag h (nI 0) := if_neg q
theorem gro_0 {kd ag : Nat → Int32} : groF kd ag 0 = ag := by funext j; simp [groF]
theorem gro_at {kd ag : Nat → Int32} {i : Nat} : groF kd ag i i = ag i := if_neg (Nat.lt_irrefl i)
theorem gro_s {kd ag : Nat → Int32} {i : Nat} {x : Int32} (h : x = nxF (kd i) (ag i)) : upd (groF kd ag i) i x = groF kd ag (i + 1) := by
  funext j
  unfold upd groF
  by_cases hj : j = i
  · rw [if_pos hj, if_pos (by omega), hj, h]
  · rw [if_neg hj]
    by_cases h1 : j < i
    · rw [if_pos h1, if_pos (by omega)]
    · rw [if_neg h1, if_neg (by omega)]
theorem gro_s1 {kd ag : Nat → Int32} {i : Nat} (h : kd i = nI 4) : upd (groF kd ag i) i (groF kd ag i i + nI 0) = groF kd ag (i + 1) :=
  gro_s (by rw [gro_at]; unfold nxF; rw [if_pos h]; exact Int32.add_zero _)
theorem gro_s2 {kd ag : Nat → Int32} {i : Nat} (h : ¬ kd i = nI 4) : upd (groF kd ag i) i (groF kd ag i i + nI 1) = groF kd ag (i + 1) :=
  gro_s (by rw [gro_at]; unfold nxF; rw [if_neg h])
/-- the births in houses -/
def bornF (n : Nat) (kd bo : Nat → Int32) (h : Nat) : Nat → Int32 := if lendF n kd h then upd (upd bo h (bo h + nI 1)) (h + 1) (bo (h + 1) + nI 1) else upd bo h (bo h + nI 1)
theorem born_t {n : Nat} {kd bo : Nat → Int32} {h : Nat} (q : lendF n kd h) : bornF n kd bo h = upd (upd bo h (bo h + nI 1)) (h + 1) (upd bo h (bo h + nI 1) (h + 1) + nI 1) := by
  unfold bornF
  rw [if_pos q, show upd bo h (bo h + nI 1) (h + 1) = bo (h + 1) from if_neg (by omega)]
theorem born_f {n : Nat} {kd bo : Nat → Int32} {h : Nat} (q : ¬ lendF n kd h) : bornF n kd bo h = upd bo h (bo h + nI 1) := if_neg q
def birF (n : Nat) (kd ag bo : Nat → Int32) (bs x : Int32) : Int32 × (Nat → Int32) × (Nat → Int32) × Int32 :=
  if hIn n x then (if mayB (kd x.toNatClampNeg) then ((if lendF n kd x.toNatClampNeg then nI 2 else nI 1), bearF n kd ag x.toNatClampNeg, bornF n kd bo x.toNatClampNeg, bs + nI 1) else (-103, ag, bo, bs)) else (-101, ag, bo, bs)
theorem bir_ok {n : Nat} {kd ag bo : Nat → Int32} {bs : Int32} {j : Nat} (hj : j < n) (hn : n ≤ 6) (h : mayB (kd j)) : birF n kd ag bo bs (nI j) = ((if lendF n kd j then nI 2 else nI 1), bearF n kd ag j, bornF n kd bo j, bs + nI 1) := by
  unfold birF
  rw [nI_clamp (by omega), if_pos (hIn_nI hj (by omega)), if_pos h]
theorem bir_1 {n : Nat} {kd ag bo : Nat → Int32} {bs x : Int32} (h : ¬ hIn n x) : birF n kd ag bo bs x = (-101, ag, bo, bs) := if_neg h
theorem bir_2 {n : Nat} {kd ag bo : Nat → Int32} {bs : Int32} {j : Nat} (hj : j < n) (hn : n ≤ 6) (h : ¬ mayB (kd j)) : birF n kd ag bo bs (nI j) = (-103, ag, bo, bs) := by
  unfold birF
  rw [nI_clamp (by omega), if_pos (hIn_nI hj (by omega)), if_neg h]
/-- the ages of day td, kept -/
def paF (ag pa : Nat → Int32) (td i : Nat) : Nat → Int32 := fun q => if 6 * td ≤ q ∧ q < 6 * td + i then ag (q - 6 * td) else pa q
theorem pa_0 {ag pa : Nat → Int32} {td : Nat} : paF ag pa td 0 = pa := by
  funext q
  exact if_neg (by omega)
theorem pa_s {ag pa : Nat → Int32} {td i q : Nat} (hq : q = 6 * td + i) : upd (paF ag pa td i) q (ag i) = paF ag pa td (i + 1) := by
  subst hq
  funext q
  unfold upd paF
  by_cases hj : q = 6 * td + i
  · rw [if_pos hj, if_pos (by omega), hj, show 6 * td + i - 6 * td = i by omega]
  · rw [if_neg hj]
    by_cases h1 : 6 * td ≤ q ∧ q < 6 * td + i
    · rw [if_pos h1, if_pos (by omega)]
    · rw [if_neg h1, if_neg (by omega)]
def dayF (n td : Nat) (kd ag pa : Nat → Int32) : Int32 × (Nat → Int32) × (Nat → Int32) × Nat := if n = 0 then (-103, ag, pa, td) else if td = 30 then (-104, ag, pa, td) else (nI (td + 1), groF kd ag n, paF ag pa td n, td + 1)
def debF (n nd : Nat) (dm dn : Nat → Int32) (x y : Int32) : Int32 × (Nat → Int32) × (Nat → Int32) × Nat :=
  if (nI 1 ≤ x ∧ x ≤ nI 9) ∧ x_in y 99 then (if n = 0 then (-103, dm, dn, nd) else if nd = 6 then (-104, dm, dn, nd) else (nI (nd + 1), upd dm nd x, upd dn nd y, nd + 1)) else (-102, dm, dn, nd)
def heaF (n nh : Nat) (hh hn : Nat → Int32) (x y : Int32) : Int32 × (Nat → Int32) × (Nat → Int32) × Nat :=
  if hIn n x then (if x_in y 99 then (if nh = 6 then (-104, hh, hn, nh) else (nI (nh + 1), upd hh nh x, upd hn nh y, nh + 1)) else (-102, hh, hn, nh)) else (-101, hh, hn, nh)
/-- births in the houses of a set below h -/
def brS (n : Nat) (kd ag : Nat → Int32) (set : Nat) : Nat → (Nat → Int32)
  | 0 => ag
  | h + 1 => if set.testBit h = true then bearF n kd (brS n kd ag set h) h else brS n kd ag set h
def nbP (kd : Nat → Int32) (set h : Nat) : Bool := !set.testBit h || decide (mayB (kd h))
def nbV (n : Nat) (kd ag : Nat → Int32) (set : Nat) : Int32 := sm (nmF kd (brS n kd ag set n)) n
def nbR (n : Nat) (kd ag : Nat → Int32) (set : Nat) : Int32 := if al (nbP kd set) n = true then nbV n kd ag set else (268435456 : Int32)
def fwP (s : Nat) : Option Nat → Bool
  | none => true
  | some b => decide (popF s < popF b)
def bst (n : Nat) (kd ag : Nat → Int32) (x : Int32) : Nat → Option Nat
  | 0 => none
  | s + 1 => if fwP s (bst n kd ag x s) = true ∧ al (nbP kd s) n = true ∧ nbV n kd ag s ≤ x then some s else bst n kd ag x s
def o2i : Option Nat → Int32
  | none => -1
  | some b => nI b
theorem bst_lt {n : Nat} {kd ag : Nat → Int32} {x : Int32} : ∀ {s b : Nat}, bst n kd ag x s = some b → b < s
  | 0, b, h => by cases h
  | s + 1, b, h => by
    simp only [bst] at h
    split at h
    · cases h; omega
    · have := bst_lt (s := s) h; omega
theorem bst_t {n : Nat} {kd ag : Nat → Int32} {x : Int32} {s : Nat} (h1 : fwP s (bst n kd ag x s) = true) (h2 : al (nbP kd s) n = true) (h3 : nbV n kd ag s ≤ x) : bst n kd ag x (s + 1) = some s := if_pos ⟨h1, h2, h3⟩
theorem bst_f {n : Nat} {kd ag : Nat → Int32} {x : Int32} {s : Nat} (h : ¬ (fwP s (bst n kd ag x s) = true ∧ al (nbP kd s) n = true ∧ nbV n kd ag s ≤ x)) : bst n kd ag x (s + 1) = bst n kd ag x s := if_neg h
theorem o2i_ne {o : Option Nat} (h : ¬ o2i o = -1) : ∃ b, o = some b := by
  cases o with
  | none => exact absurd rfl h
  | some b => exact ⟨b, rfl⟩
theorem o2i_eq {o : Option Nat} (h : o2i o = -1) (hb : ∀ b, o = some b → b < 2147483648) : o = none := by
  cases o with
  | none => rfl
  | some b =>
    have h2 : nI b = -1 := h
    have h3 := nI_pos' (n := b) (hb b rfl)
    rw [h2] at h3
    exact absurd h3 (by decide)
def chN (n : Nat) (kd ag : Nat → Int32) (x w : Int32) : Int32 := match bst n kd ag x (2 ^ n) with
  | none => -1
  | some b => if w = nI 1 then nI b else nI (popF b)
def chF (n : Nat) (kd ag : Nat → Int32) (x w : Int32) : Int32 := if x_in x 400 ∧ x_in w 1 then (if n = 0 then -103 else chN n kd ag x w) else -102
theorem shl_n : ∀ n, n ≤ 6 → nI 1 <<< (nI n &&& 31) = nI (2 ^ n) := by decide +kernel
theorem two_n {n : Nat} (h : n ≤ 6) : 2 ^ n ≤ 64 := by
  have := Nat.pow_le_pow_right (show 0 < 2 by decide) h
  omega
/-- draws -/
def sdF (z : Nat) : Nat := (1103515245 * z + 12345) % 2147483648
def drF (n z : Nat) : Nat := z / 65536 % n
theorem lN_m31 (a : Nat) : lN a &&& (2147483647 : Int64) = lN (a % 2147483648) := by
  have key : ∀ x y : Int64, x.toBitVec = y.toBitVec → x = y := fun x y h => Int64.toBitVec_inj.mp h
  apply key
  rw [Int64.toBitVec_and]
  show BitVec.ofNat 64 a &&& BitVec.ofNat 64 2147483647 = BitVec.ofNat 64 (a % 2147483648)
  apply BitVec.eq_of_toNat_eq
  rw [BitVec.toNat_and, BitVec.toNat_ofNat, BitVec.toNat_ofNat, BitVec.toNat_ofNat]
  rw [show 2147483647 % 2 ^ 64 = 2 ^ 31 - 1 from rfl, Nat.and_two_pow_sub_one_eq_mod]
  omega
theorem sd_l (z : Nat) : ((1103515245 : Int64) * lN z + (12345 : Int64)) &&& (2147483647 : Int64) = lN (sdF z) := by
  rw [show (1103515245 : Int64) = lN 1103515245 from rfl, show (12345 : Int64) = lN 12345 from rfl, lN_mul, lN_add, lN_m31]
  rfl
theorem sdF_lt (z : Nat) : sdF z < 2147483648 := Nat.mod_lt _ (by decide)
theorem dr_l {n z : Nat} (hz : z < 2147483648) (hn : 0 < n) (hn6 : n ≤ 6) : (lN z / (65536 : Int64) - lN z / (65536 : Int64) / (nI n).toInt64 * (nI n).toInt64).toInt32 = nI (drF n z) := by
  rw [show (65536 : Int64) = lN 65536 from rfl, pk_lDiv (by omega) (by omega) (by omega), nI_l (by omega), pk_lRem (by omega) hn (by omega), lN_i]
  rfl
theorem drF_lt {n z : Nat} (hn : 0 < n) : drF n z < n := Nat.mod_lt _ hn
def ySd (z : Nat) : Nat → Nat
  | 0 => z
  | i + 1 => sdF (ySd z i)
theorem ySd_lt {z : Nat} (hz : z < 2147483648) : ∀ {i : Nat}, ySd z i < 2147483648
  | 0 => hz
  | _ + 1 => sdF_lt _
def yB (n : Nat) (kd ag : Nat → Int32) (h : Nat) : Nat → Int32 := if mayB (kd h) then bearF n kd ag h else ag
def yAg (n : Nat) (kd ag : Nat → Int32) (z : Nat) : Nat → (Nat → Int32)
  | 0 => ag
  | i + 1 => groF kd (yB n kd (yAg n kd ag z i) (drF n (ySd z (i + 1)))) n
def yFar (n : Nat) (kd ag : Nat → Int32) (z : Nat) : Nat → Nat
  | 0 => 0
  | i + 1 => yFar n kd ag z i + wkF n (nmF kd (yB n kd (yAg n kd ag z i) (drF n (ySd z (i + 1))))) n
def yrN (n : Nat) (kd ag : Nat → Int32) (k z : Nat) (w : Int32) : Int32 := if w = nI 0 then nI (yFar n kd ag z k) else if w = nI 1 then sm (nmF kd (yAg n kd ag z k)) n else nI (ySd z k)
def yrF (n : Nat) (kd ag : Nat → Int32) (k x w : Int32) : Int32 := if (nI 1 ≤ k ∧ k ≤ nI 60) ∧ 0 ≤ x ∧ x_in w 2 then (if n = 0 then -103 else yrN n kd ag k.toNatClampNeg x.toNatClampNeg w) else -102
theorem al_sk {p : Nat → Bool} {k : Nat} (h : p k = true) : al p (k + 1) = true ↔ al p k = true := by
  simp [al, h]
theorem nbP_o {kd : Nat → Int32} {set h : Nat} (q : ¬ biS set h) : nbP kd set h = true := by
  unfold nbP
  rw [Bool.eq_false_iff.mpr q]
  rfl
theorem nbP_f {kd : Nat → Int32} {set h : Nat} (q : biS set h) (r : ¬ mayB (kd h)) : ¬ nbP kd set h = true := by
  unfold nbP
  rw [q, decide_eq_false r]
  decide
theorem nbP_t {kd : Nat → Int32} {set h : Nat} (r : mayB (kd h)) : nbP kd set h = true := by
  unfold nbP
  rw [decide_eq_true r, Bool.or_true]
theorem brS_f {n : Nat} {kd ag : Nat → Int32} {set h : Nat} (q : ¬ biS set h) : brS n kd ag set (h + 1) = brS n kd ag set h := if_neg q
theorem brS_t {n : Nat} {kd ag : Nat → Int32} {set h : Nat} (q : biS set h) : brS n kd ag set (h + 1) = bearF n kd (brS n kd ag set h) h := if_pos q
theorem nbR_ok {n : Nat} {kd ag : Nat → Int32} {x : Int32} {i : Nat} (hx : x ≤ nI 400) : ¬ x < nbR n kd ag i ↔ (al (nbP kd i) n = true ∧ nbV n kd ag i ≤ x) := by
  unfold nbR
  by_cases h : al (nbP kd i) n = true
  · rw [if_pos h]
    exact ⟨fun q => ⟨h, Int32.not_lt.mp q⟩, fun q => Int32.not_lt.mpr q.2⟩
  · rw [if_neg h]
    refine ⟨fun q => absurd ?_ q, fun q => absurd q.1 h⟩
    exact Int32.lt_of_le_of_lt hx (by decide)
theorem fw_n {s : Nat} {o : Option Nat} (h : o = none) : fwP s o = true := by rw [h]; rfl
theorem fw_s {s b : Nat} {o : Option Nat} (e : o = some b) (h : fwP s o = true) : popF s < popF b := by
  rw [e] at h
  exact of_decide_eq_true h
theorem fw_t {s b : Nat} {o : Option Nat} (e : o = some b) (h : popF s < popF b) : fwP s o = true := by
  rw [e]
  exact decide_eq_true h
theorem chN_n {n : Nat} {kd ag : Nat → Int32} {x w : Int32} (h : bst n kd ag x (2 ^ n) = none) : chN n kd ag x w = -1 := by
  unfold chN
  rw [h]
theorem chN_s {n : Nat} {kd ag : Nat → Int32} {x w : Int32} {b : Nat} (h : bst n kd ag x (2 ^ n) = some b) : chN n kd ag x w = if w = nI 1 then nI b else nI (popF b) := by
  unfold chN
  rw [h]
theorem l_ne0 : ∀ d, 0 < d → d ≤ 6 → ¬ (nI d).toInt64 = 0 := by
  intro d h0 h6
  have : ∀ d, d < 7 → 0 < d → ¬ (nI d).toInt64 = 0 := by decide +kernel
  exact this d (by omega) h0
theorem yrF_ok {n : Nat} {kd ag : Nat → Int32} {k z : Nat} {w : Int32} (h : nI 1 ≤ nI k ∧ nI k ≤ nI 60) (hk : k ≤ 60) (hz : z < 2147483648) (hw : x_in w 2) : yrF n kd ag (nI k) (nI z) w = if n = 0 then -103 else yrN n kd ag k z w := by
  unfold yrF
  rw [if_pos ⟨h, nI_pos' hz, hw⟩, nI_clamp (by omega), nI_clamp hz]
/-- the street of a page -/
def stK (pg : Nat → Int32) (h : Nat) : Int32 := kindF (pg (3 * h)).toNatClampNeg
def stA (pg : Nat → Int32) (h : Nat) : Int32 := pg (3 * h + 1) - nI 48
abbrev stOK (pg : Nat → Int32) (pl : Nat) : Prop := 5 ≤ pl ∧ pl % 3 = 2 ∧ ftF pg pl = pl
theorem fz_ok {p : Nat → Bool} : ∀ {n lo : Nat}, fz p lo n = lo + n → ∀ j, lo ≤ j → j < lo + n → p j = true
  | 0, lo, _, j, h1, h2 => by omega
  | n + 1, lo, h, j, h1, h2 => by
    simp only [fz] at h
    by_cases hp : p lo = true
    · rw [if_pos hp] at h
      by_cases hj : j = lo
      · rw [hj]; exact hp
      · exact fz_ok (n := n) (lo := lo + 1) (by omega) j (by omega) (by omega)
    · rw [if_neg hp] at h
      omega
theorem ft_ok {pg : Nat → Int32} {pl : Nat} (h : ftF pg pl = pl) : ∀ k, k < pl → gdX k (pg k).toNatClampNeg = true := fun k hk => fz_ok (p := fun k => gdX k (pg k).toNatClampNeg) (lo := 0) (n := pl) (by unfold ftF at h; omega) k (Nat.zero_le _) (by omega)
theorem ft_17 {pg : Nat → Int32} {pl : Nat} (h : ftF pg pl = pl) : pl ≤ 17 := by
  apply Classical.byContradiction
  intro q
  have h1 := ft_ok h 17 (by omega)
  unfold gdX at h1
  simp at h1
/-- digest -/
def mx (h v : Int64) : Int64 := (31 : Int64) * h + v
def mxL (f : Nat → Int64) (h : Int64) : Nat → Int64
  | 0 => h
  | k + 1 => mx (mxL f h k) (f k)
theorem mxL_c {f g : Nat → Int64} {h : Int64} : ∀ {k : Nat}, (∀ j, j < k → f j = g j) → mxL f h k = mxL g h k
  | 0, _ => rfl
  | k + 1, q => by
    simp only [mxL]
    rw [mxL_c (k := k) (fun j hj => q j (by omega)), q k (by omega)]
def mhF (n : Nat) (kd ag bo pa dm dn : Nat → Int32) (nd td j : Nat) (h : Int64) : Int64 := mxL (fun d => (numOn kd ag pa td j d).toInt64) (mxL (fun w => (abF n kd ag bo dm dn nd j w).toInt64) h 6) (td + 1)
def dgH (n : Nat) (kd ag bo pa dm dn : Nat → Int32) (nd td : Nat) : Nat → Int64
  | 0 => (1033 : Int64)
  | j + 1 => mhF n kd ag bo pa dm dn nd td j (dgH n kd ag bo pa dm dn nd td j)
def dgS (n : Nat) (kd ag pa : Nat → Int32) (td : Nat) (cb : Nat → Bool) (h : Int64) : Int64 := if n = 0 then h else
  mx (mx (mx (mx (mx (mx h (nI (wkF n (nmF kd ag) n)).toInt64) (chN n kd ag (nI 9) (nI 0)).toInt64) (chN n kd ag (nI 9) (nI 1)).toInt64) (dyF cb td (nI 0)).toInt64) (dyF cb td (nI 1)).toInt64) (askF n kd ag pa cb td).toInt64
def dgF (n td : Nat) (bs : Int32) (kd ag bo pa dm dn hh hn : Nat → Int32) (nd nh : Nat) (pg : Nat → Int32) (pl st : Nat) : Int64 :=
  mxL (fun w => (hmF n td bs kd ag dm dn nd nh pl st w).toInt64) (mxL (fun k => (pg k).toInt64) (dgS n kd ag pa td (cbF kd ag pa hh hn td nh) (dgH n kd ag bo pa dm dn nd td n)) pl) 10
theorem abF_c {n : Nat} {kd ag bo bo' dm dn : Nat → Int32} {nd h w : Nat} (e : bo h = bo' h) : abF n kd ag bo dm dn nd h w = abF n kd ag bo' dm dn nd h w := by
  unfold abF
  split <;> first | rfl | exact e
theorem dgH_c {n : Nat} {kd ag bo bo' pa dm dn : Nat → Int32} {nd td : Nat} : ∀ {j : Nat}, (∀ i, i < j → bo i = bo' i) → dgH n kd ag bo pa dm dn nd td j = dgH n kd ag bo' pa dm dn nd td j
  | 0, _ => rfl
  | j + 1, h => by
    simp only [dgH]
    rw [dgH_c (j := j) (fun i hi => h i (by omega))]
    unfold mhF
    rw [mxL_c (f := fun w => (abF n kd ag bo dm dn nd j w).toInt64) (g := fun w => (abF n kd ag bo' dm dn nd j w).toInt64) (fun w _ => congrArg Int32.toInt64 (abF_c (h j (by omega))))]
theorem dgF_c {n td : Nat} {bs : Int32} {kd ag bo bo' pa dm dn hh hn : Nat → Int32} {nd nh : Nat} {pg : Nat → Int32} {pl st : Nat} (h : ∀ i, i < n → bo i = bo' i) : dgF n td bs kd ag bo pa dm dn hh hn nd nh pg pl st = dgF n td bs kd ag bo' pa dm dn hh hn nd nh pg pl st := by
  unfold dgF
  rw [dgH_c h]
theorem dgS_0 {n : Nat} {kd ag pa : Nat → Int32} {td : Nat} {cb : Nat → Bool} {h : Int64} (e : n = 0) : dgS n kd ag pa td cb h = h := if_pos e
/-- of the class -/
abbrev isAF (k w : Int32) : Prop := w = nI 0 ∨ w = k ∨ (w = nI 2 ∧ k = nI 4)
theorem isA_2 {k : Int32} : isAF k (nI 2) ↔ (k = nI 2 ∨ k = nI 4) :=
  ⟨fun q => q.elim (fun h => absurd h (by decide)) (fun q => q.elim (fun h => Or.inl h.symm) (fun h => Or.inr h.2)), fun q => q.elim (fun h => Or.inr (Or.inl h.symm)) (fun h => Or.inr (Or.inr ⟨rfl, h⟩))⟩
theorem isA_3 {k : Int32} : isAF k (nI 3) ↔ k = nI 3 :=
  ⟨fun q => q.elim (fun h => absurd h (by decide)) (fun q => q.elim (fun h => h.symm) (fun h => absurd h.1 (by decide))), fun h => Or.inr (Or.inl h.symm)⟩
theorem yB_t {n : Nat} {kd ag : Nat → Int32} {h : Nat} (q : ¬ (kd h = nI 2 ∨ kd h = nI 4)) : yB n kd ag h = bearF n kd ag h := if_pos q
theorem yB_f {n : Nat} {kd ag : Nat → Int32} {h : Nat} (q : kd h = nI 2 ∨ kd h = nI 4) : yB n kd ag h = ag := if_neg (fun r => r q)
theorem hot_s {n : Nat} {v : Nat → Int32} {t i : Nat} (hi : i < n) : hotF n v t (n - i) = if ordF n v i = t then i else hotF n v t (n - (i + 1)) := by
  rw [show n - i = (n - (i + 1)) + 1 by omega]
  simp only [hotF]
  rw [show n - ((n - (i + 1)) + 1) = i by omega]
theorem abs_d {a b : Nat} (ha : a < 1000) (hb : b < 1000) : (if 0 ≤ nI a - nI b then nI a - nI b else 0 - (nI a - nI b)) = nI (dstF a b) := by
  unfold dstF
  by_cases h : b ≤ a
  · rw [pk_sub h, if_pos (nI_pos' (by omega))]
    by_cases h2 : b < a
    · rw [if_pos h2]
    · rw [if_neg h2, show a - b = b - a by omega]
  · have h1 := pk_sneg (a := a) (b := b) (by omega) (by omega)
    rw [if_neg (Int32.not_le.mpr h1), if_neg (by omega), ← pk_sub (show a ≤ b by omega)]
    rw [show (0 : Int32) - (nI a - nI b) = nI b - nI a from by rw [Int32.zero_sub, Int32.neg_sub]]
theorem sd_x (z : Nat) (hz : z < 2147483648) : ((1103515245 : Int64) * (nI z).toInt64 + (12345 : Int64) - ((1103515245 : Int64) * (nI z).toInt64 + (12345 : Int64)) / (2147483648 : Int64) * (2147483648 : Int64)).toInt32 = nI (sdF z) := by
  rw [nI_l hz, show (1103515245 : Int64) = lN 1103515245 from rfl, show (12345 : Int64) = lN 12345 from rfl, show (2147483648 : Int64) = lN 2147483648 from rfl, lN_mul, lN_add, pk_lRem (by omega) (by omega) (by omega), lN_i]
  rfl
theorem isA_s {k w : Int32} : (w = nI 0 ∨ k = w ∨ w = nI 2 ∧ k = nI 4) ↔ isAF k w := ⟨fun q => q.elim Or.inl (fun q => q.elim (fun h => Or.inr (Or.inl h.symm)) (fun h => Or.inr (Or.inr h))), fun q => q.elim Or.inl (fun q => q.elim (fun h => Or.inr (Or.inl h.symm)) (fun h => Or.inr (Or.inr h)))⟩
theorem agF_0 {k a : Int32} : agF k a 0 = a := by
  unfold agF
  split
  · rfl
  · exact Int32.add_zero a
theorem agF_s {k a : Int32} {i : Nat} : agF k a (i + 1) = nxF k (agF k a i) := by
  unfold agF nxF
  split
  · rfl
  · rw [nI_succ, ← Int32.add_assoc]; rfl
