/-! ===== the script's cells, the street's page ===== -/
def clF (L : Nat) (xs : Nat → Int32) (k : Nat) : Nat := ((if k < L then xs k else nI (7919 * k + 13)) &&& nI 2147483647).toNatClampNeg
theorem cl_of (x : Int32) : x &&& nI 2147483647 = nI ((x &&& nI 2147483647).toNatClampNeg) ∧ (x &&& nI 2147483647).toNatClampNeg < 2147483648 := by
  obtain ⟨j, hj, ej⟩ := pk_andE x (m := nI 2147483647) 31 (by decide)
  rw [ej, nI_clamp (by omega)]
  exact ⟨rfl, by omega⟩
theorem clF_lt {L : Nat} {xs : Nat → Int32} {k : Nat} : clF L xs k < 2147483648 := (cl_of _).2
def e15 (x s : Nat) : Nat := ((nI x >>> (nI s &&& 31)) &&& nI 15).toNatClampNeg
theorem e15_ok (x s : Nat) : (nI x >>> (nI s &&& 31)) &&& nI 15 = nI (e15 x s) := by
  unfold e15
  obtain ⟨j, hj, ej⟩ := pk_andE (nI x >>> (nI s &&& 31)) (m := nI 15) 4 (by decide)
  rw [ej, nI_clamp (by omega)]
theorem e15_lt (x s : Nat) : e15 x s < 16 := by
  unfold e15
  obtain ⟨j, hj, ej⟩ := pk_andE (nI x >>> (nI s &&& 31)) (m := nI 15) 4 (by decide)
  rw [ej, nI_clamp (by omega)]
  omega
def sN (x : Nat) : Nat := 2 + x % 5
theorem sN_6 {x : Nat} : 2 ≤ sN x ∧ sN x ≤ 6 := by unfold sN; omega
def sk (x i : Nat) : Nat := e15 x (3 + 4 * i) % 5
def sa (z i : Nat) : Nat := e15 z (4 * i) % 10
theorem sk_lt {x i : Nat} : sk x i ≤ 4 := by unfold sk; omega
theorem sa_lt {z i : Nat} : sa z i ≤ 9 := by unfold sa; omega
def kL (c : Nat) : Nat := if c = 0 then 104 else if c = 1 then 116 else if c = 2 then 109 else if c = 3 then 99 else 98
theorem kL_0 {c : Nat} (h : c = 0) : kL c = 104 := by rw [h]; rfl
theorem kL_1 {c : Nat} (h : c = 1) : kL c = 116 := by rw [h]; rfl
theorem kL_2 {c : Nat} (h : c = 2) : kL c = 109 := by rw [h]; rfl
theorem kL_3 {c : Nat} (h : c = 3) : kL c = 99 := by rw [h]; rfl
theorem kL_4 {c : Nat} (h : c ≤ 4) (h0 : ¬ c = 0) (h1 : ¬ c = 1) (h2 : ¬ c = 2) (h3 : ¬ c = 3) : kL c = 98 := by rw [show c = 4 by omega]; rfl
theorem kL_ok : ∀ c, c ≤ 4 → kindF (kL c) = nI c ∧ 32 ≤ kL c ∧ kL c ≤ 126 := by decide
def sW (x z : Nat) (wa : Nat → Int32) : Nat → (Nat → Int32)
  | 0 => upd (upd (upd wa 0 (nI (sN x))) 1 (nI 0)) 2 (nI 0)
  | i + 1 => upd (upd (upd (sW x z wa i) (3 + 3 * i) (nI (sk x i))) (4 + 3 * i) (nI (sa z i))) (5 + 3 * i) (nI 0)
theorem sW_c {x z j : Nat} {wa : Nat → Int32} (h : j < 3) : ∀ {i : Nat}, sW x z wa i j = sW x z wa 0 j
  | 0 => rfl
  | i + 1 => by
    show upd (upd (upd (sW x z wa i) (3 + 3 * i) (nI (sk x i))) (4 + 3 * i) (nI (sa z i))) (5 + 3 * i) (nI 0) j = _
    rw [pk_un (by omega), pk_un (by omega), pk_un (by omega), sW_c h]
theorem sW_0 {x z i : Nat} {wa : Nat → Int32} : sW x z wa i 0 = nI (sN x) := by
  rw [sW_c (by omega)]
  show upd (upd (upd wa 0 (nI (sN x))) 1 (nI 0)) 2 (nI 0) 0 = _
  rw [pk_un (by omega), pk_un (by omega), pk_us]
theorem sW_1 {x z i : Nat} {wa : Nat → Int32} : sW x z wa i 1 = nI 0 := by
  rw [sW_c (by omega)]
  show upd (upd (upd wa 0 (nI (sN x))) 1 (nI 0)) 2 (nI 0) 1 = _
  rw [pk_un (by omega), pk_us]
theorem sW_2 {x z i : Nat} {wa : Nat → Int32} : sW x z wa i 2 = nI 0 := by
  rw [sW_c (by omega)]
  show upd (upd (upd wa 0 (nI (sN x))) 1 (nI 0)) 2 (nI 0) 2 = _
  rw [pk_us]
theorem sW_h {x z : Nat} {wa : Nat → Int32} : ∀ {i k : Nat}, k < i → sW x z wa i (3 + 3 * k) = nI (sk x k) ∧ sW x z wa i (4 + 3 * k) = nI (sa z k) ∧ sW x z wa i (5 + 3 * k) = nI 0
  | 0, k, h => by omega
  | i + 1, k, h => by
    have ih := fun (h1 : k < i) => sW_h (x := x) (z := z) (wa := wa) h1
    have e1 : ∀ j, sW x z wa (i + 1) j = upd (upd (upd (sW x z wa i) (3 + 3 * i) (nI (sk x i))) (4 + 3 * i) (nI (sa z i))) (5 + 3 * i) (nI 0) j := fun _ => rfl
    by_cases hk : k = i
    · subst hk
      refine ⟨?_, ?_, ?_⟩
      · rw [e1, pk_un (by omega), pk_un (by omega), pk_us]
      · rw [e1, pk_un (by omega), pk_us]
      · rw [e1, pk_us]
    · obtain ⟨a, b, c⟩ := ih (by omega)
      refine ⟨?_, ?_, ?_⟩
      · rw [e1, pk_un (by omega), pk_un (by omega), pk_un (by omega)]; exact a
      · rw [e1, pk_un (by omega), pk_un (by omega), pk_un (by omega)]; exact b
      · rw [e1, pk_un (by omega), pk_un (by omega), pk_un (by omega)]; exact c
def plL (i : Nat) : Nat := if i = 0 then 0 else 3 * i - 1
theorem plL_z {i : Nat} (h : i = 0) : plL i = 3 * i := by rw [h]; rfl
theorem plL_s {i : Nat} (h : ¬ i = 0) : plL i = 3 * i - 1 := if_neg h
theorem plL_1 (i : Nat) : 3 * i + 1 + 1 = plL (i + 1) := by rw [plL_s (by omega)]; omega
theorem plL_19 {i : Nat} (h : i ≤ 6) : plL i ≤ 17 := by unfold plL; split <;> omega
def pgL (x z : Nat) (pg : Nat → Int32) : Nat → (Nat → Int32)
  | 0 => pg
  | i + 1 => upd (upd (if i = 0 then pgL x z pg i else upd (pgL x z pg i) (3 * i - 1) (nI 44)) (3 * i) (nI (kL (sk x i)))) (3 * i + 1) (nI (48 + sa z i))
def pgM (x z : Nat) (pg : Nat → Int32) (i : Nat) : Nat → Int32 := if i = 0 then pgL x z pg i else upd (pgL x z pg i) (3 * i - 1) (nI 44)
theorem pgM_z {x z i : Nat} {pg : Nat → Int32} (h : i = 0) : pgL x z pg i = pgM x z pg i := (if_pos h).symm
theorem pgM_s {x z i : Nat} {pg : Nat → Int32} (h : ¬ i = 0) : upd (pgL x z pg i) (3 * i - 1) (nI 44) = pgM x z pg i := (if_neg h).symm
theorem pgL_s {x z i : Nat} {pg : Nat → Int32} : upd (upd (pgM x z pg i) (3 * i) (nI (kL (sk x i)))) (3 * i + 1) (nI (48 + sa z i)) = pgL x z pg (i + 1) := rfl
/-- what the page holds at its places below 3 i - 1 -/
def pgV (x z j : Nat) : Nat := if j % 3 = 0 then kL (sk x (j / 3)) else if j % 3 = 1 then 48 + sa z (j / 3) else 44
theorem pgL_ok {x z : Nat} {pg : Nat → Int32} : ∀ {i j : Nat}, j < plL i → pgL x z pg i j = nI (pgV x z j)
  | 0, j, h => by
    unfold plL at h
    rw [if_pos rfl] at h
    omega
  | i + 1, j, h => by
    rw [plL_s (by omega)] at h
    have e1 : pgL x z pg (i + 1) j = upd (upd (pgM x z pg i) (3 * i) (nI (kL (sk x i)))) (3 * i + 1) (nI (48 + sa z i)) j := rfl
    rw [e1]
    by_cases h1 : j = 3 * i + 1
    · rw [h1, pk_us]
      unfold pgV
      rw [if_neg (by omega), if_pos (by omega), show (3 * i + 1) / 3 = i by omega]
    · rw [pk_un h1]
      by_cases h2 : j = 3 * i
      · rw [h2, pk_us]
        unfold pgV
        rw [if_pos (by omega), show 3 * i / 3 = i by omega]
      · rw [pk_un h2]
        by_cases hi : i = 0
        · omega
        · rw [← pgM_s hi]
          by_cases h3 : j = 3 * i - 1
          · rw [h3, pk_us]
            unfold pgV
            rw [if_neg (by omega), if_neg (by omega)]
          · rw [pk_un h3]
            exact pgL_ok (by rw [plL_s hi]; omega)
theorem pgV_b {x z j : Nat} : 32 ≤ pgV x z j ∧ pgV x z j ≤ 126 := by
  have h1 := kL_ok (sk x (j / 3)) sk_lt
  have h2 := sa_lt (z := z) (i := j / 3)
  unfold pgV
  split
  · exact h1.2
  · split <;> omega
theorem pgL_c {x z : Nat} {pg : Nat → Int32} {i j : Nat} (h : j < plL i) : (pgL x z pg i j).toNatClampNeg = pgV x z j := by
  rw [pgL_ok h, nI_clamp (by have := pgV_b (x := x) (z := z) (j := j); omega)]
theorem pgL_pg {x z : Nat} {pg : Nat → Int32} {i : Nat} : pgOK (pgL x z pg i) (plL i) := by
  intro k hk
  rw [pgL_c hk, pgL_ok hk]
  exact ⟨rfl, pgV_b⟩
theorem pgL_ft {x z : Nat} {pg : Nat → Int32} {i : Nat} (hi : i ≤ 6) : ftF (pgL x z pg i) (plL i) = plL i := by
  unfold ftF
  rw [fz_all (fun j _ hj => ?_), Nat.zero_add]
  have hj : j < plL i := by omega
  have h17 : j < 17 := by have := plL_19 hi; omega
  rw [pgL_c hj]
  by_cases h0 : j % 3 = 0
  · refine (gdX_0 h17 h0).mpr ?_
    unfold pgV
    rw [if_pos h0, (kL_ok _ sk_lt).1]
    have := sk_lt (x := x) (i := j / 3)
    intro q
    have key : ∀ c, c ≤ 4 → ¬ nI c = -1 := by decide
    exact key _ this q
  · by_cases h1 : j % 3 = 1
    · refine (gdX_1 h17 h1).mpr ?_
      unfold pgV
      rw [if_neg h0, if_pos h1]
      have := sa_lt (z := z) (i := j / 3)
      omega
    · refine (gdX_2 h17 h0 h1).mpr ?_
      unfold pgV
      rw [if_neg h0, if_neg h1]
theorem pgL_st {x z : Nat} {pg : Nat → Int32} {i : Nat} (h2 : 2 ≤ i) (hi : i ≤ 6) : stOK (pgL x z pg i) (3 * i - 1) := by
  have h := pgL_ft (x := x) (z := z) (pg := pg) hi
  rw [plL_s (by omega)] at h
  exact ⟨by omega, by omega, h⟩
theorem let_9 {pg : Nat → Int32} {pl x : Nat} (h : pl < 19) (h1 : 32 ≤ x) (h2 : x ≤ 126) : letF pg pl (nI x) = (nI (pl + 1), upd pg pl (nI x), pl + 1) := by
  unfold letF
  rw [if_pos (by_nI h1 h2 (by omega)), if_neg (by omega)]
theorem st_res {P : Prop} {r c d : Int32} {u : Bool} (h : (P ∧ r = c ∧ u = true) ∨ (¬ P ∧ r = d ∧ u = false)) (hp : P) : r = c ∧ u = true := by
  rcases h with ⟨-, h⟩ | ⟨h, -⟩
  · exact h
  · exact absurd hp h
/-! ===== days kept in seven bits a house ===== -/
def gaF (ga : Nat → Int64) (d k : Nat) : Int32 := ((ga d >>> ((nI (7 * k)).toInt64 &&& 63)) &&& (127 : Int64)).toInt32
def tnF (wa : Nat → Int32) (ga : Nat → Int64) (td k d : Nat) : Int32 := numF (wa (3 + 3 * k)) (if d = td then wa (4 + 3 * k) else gaF ga d k)
def acW (wa : Nat → Int32) : Nat → Int64
  | 0 => 0
  | i + 1 => acW wa i ||| ((wa (4 + 3 * i)).toInt64 <<< ((nI (7 * i)).toInt64 &&& 63))
def gbF (ga : Nat → Int64) (wa : Nat → Int32) (td i : Nat) : Nat → Int64 := vp_updL ga td (acW wa i)
theorem gbF_0 {ga : Nat → Int64} {wa : Nat → Int32} {td : Nat} : vp_updL ga td (0 : Int64) = gbF ga wa td 0 := rfl
theorem gbF_at {ga : Nat → Int64} {wa : Nat → Int32} {td i : Nat} : gbF ga wa td i td = acW wa i := if_pos rfl
theorem gbF_s {ga : Nat → Int64} {wa : Nat → Int32} {td i : Nat} : vp_updL (gbF ga wa td i) td (acW wa i ||| ((wa (4 + 3 * i)).toInt64 <<< ((nI (7 * i)).toInt64 &&& 63))) = gbF ga wa td (i + 1) := by
  funext j
  show (if j = td then _ else (if j = td then _ else ga j)) = if j = td then _ else ga j
  by_cases h : j = td
  · rw [if_pos h, if_pos h]; rfl
  · rw [if_neg h, if_neg h, if_neg h]
theorem gbF_n {ga : Nat → Int64} {wa : Nat → Int32} {td i d : Nat} (h : ¬ d = td) : gbF ga wa td i d = ga d := if_neg h
/-- the same in natural numbers -/
def acN (a : Nat → Nat) : Nat → Nat
  | 0 => 0
  | i + 1 => acN a i + a i * 128 ^ i
theorem acN_lt {a : Nat → Nat} : ∀ {i : Nat}, (∀ j, j < i → a j < 128) → acN a i < 128 ^ i
  | 0, _ => Nat.zero_lt_one
  | i + 1, h => by
    have h1 := acN_lt (a := a) (i := i) (fun j hj => h j (by omega))
    have h2 := Nat.mul_le_mul_right (128 ^ i) (show a i ≤ 127 by have := h i (by omega); omega)
    simp only [acN]
    rw [Nat.pow_succ]
    omega
theorem acN_at {a : Nat → Nat} : ∀ {i k : Nat}, (∀ j, j < i → a j < 128) → k < i → acN a i / 128 ^ k % 128 = a k
  | 0, k, _, hk => by omega
  | i + 1, k, h, hk => by
    have h1 := acN_lt (a := a) (i := i) (fun j hj => h j (by omega))
    have hp : 0 < 128 ^ k := Nat.pow_pos (by decide)
    simp only [acN]
    by_cases hki : k = i
    · subst hki
      rw [Nat.add_mul_div_right _ _ hp, Nat.div_eq_of_lt h1, Nat.zero_add]
      exact Nat.mod_eq_of_lt (h k (by omega))
    · have e : a i * 128 ^ i = (128 * (a i * 128 ^ (i - k - 1))) * 128 ^ k := by
        have : 128 ^ i = 128 * 128 ^ (i - k - 1) * 128 ^ k := by
          rw [← Nat.pow_succ', ← Nat.pow_add]
          congr 1
          omega
        rw [this, ← Nat.mul_assoc, ← Nat.mul_assoc]
        congr 1
        rw [Nat.mul_comm (a i) 128, Nat.mul_assoc]
      rw [e, Nat.add_mul_div_right _ _ hp, Nat.add_mul_mod_self_left]
      exact acN_at (fun j hj => h j (by omega)) (by omega)
theorem p128 : ∀ i, i < 6 → 128 ^ i = 2 ^ (7 * i) := by decide
theorem sh_63 : ∀ i, i < 6 → (nI (7 * i)).toInt64 &&& 63 = lN (7 * i) := by decide +kernel
theorem l_shl (a : Nat) : ∀ i, i < 6 → lN a <<< lN (7 * i) = lN (a * 128 ^ i) := by
  intro i hi
  apply Int64.toBitVec_inj.mp
  rw [Int64.toBitVec_shiftLeft]
  have e : ((lN (7 * i)).toBitVec.smod 64).toNat = 7 * i := by
    have key : ∀ i, i < 6 → ((lN (7 * i)).toBitVec.smod 64).toNat = 7 * i := by decide +kernel
    exact key i hi
  apply BitVec.eq_of_toNat_eq
  rw [BitVec.shiftLeft_eq', BitVec.toNat_shiftLeft, e]
  show (a % 2 ^ 64) <<< (7 * i) % 2 ^ 64 = (a * 128 ^ i) % 2 ^ 64
  rw [Nat.shiftLeft_eq, p128 i hi, Nat.mod_mul_mod]
theorem l_or {a b i : Nat} (ha : a < 2 ^ i) (h : i ≤ 63) (hs : a + b * 2 ^ i < 2 ^ 63) : lN a ||| lN (b * 2 ^ i) = lN (a + b * 2 ^ i) := by
  apply Int64.toBitVec_inj.mp
  rw [Int64.toBitVec_or]
  apply BitVec.eq_of_toNat_eq
  rw [BitVec.toNat_or]
  show (a % 2 ^ 64) ||| ((b * 2 ^ i) % 2 ^ 64) = (a + b * 2 ^ i) % 2 ^ 64
  rw [Nat.mod_eq_of_lt (by omega), Nat.mod_eq_of_lt (by omega), Nat.mod_eq_of_lt (by omega), Nat.or_comm, ← Nat.shiftLeft_eq, Nat.add_comm, Nat.shiftLeft_add_eq_or_of_lt ha]
theorem l_get {a k : Nat} (ha : a < 2 ^ 63) (hk : k < 6) : ((lN a >>> ((nI (7 * k)).toInt64 &&& 63)) &&& (127 : Int64)).toInt32 = nI (a / 128 ^ k % 128) := by
  have e0 : (lN a >>> ((nI (7 * k)).toInt64 &&& 63)) &&& (127 : Int64) = lN (a / 128 ^ k % 128) := by
    rw [sh_63 k hk]
    have e1 : lN a >>> lN (7 * k) = lN (a / 128 ^ k) := by
      apply Int64.toInt_inj.mp
      have e : ((lN (7 * k)).toBitVec.smod 64).toNat = 7 * k := by
        have key : ∀ i, i < 6 → ((lN (7 * i)).toBitVec.smod 64).toNat = 7 * i := by decide +kernel
        exact key k hk
      have hd : a / 128 ^ k < 2 ^ 63 := Nat.lt_of_le_of_lt (Nat.div_le_self _ _) ha
      rw [pk_lT hd]
      show ((lN a).toBitVec.sshiftRight' ((lN (7 * k)).toBitVec.smod 64)).toInt = _
      rw [BitVec.sshiftRight', BitVec.toInt_sshiftRight, e]
      show (lN a).toInt >>> (7 * k) = _
      rw [pk_lT ha, Int.shiftRight_eq_div_pow, p128 k hk]
      norm_cast
    rw [e1]
    apply Int64.toBitVec_inj.mp
    rw [Int64.toBitVec_and]
    apply BitVec.eq_of_toNat_eq
    have hd : a / 128 ^ k < 2 ^ 63 := Nat.lt_of_le_of_lt (Nat.div_le_self _ _) ha
    rw [BitVec.toNat_and]
    show (a / 128 ^ k % 2 ^ 64) &&& 127 = (a / 128 ^ k % 128) % 2 ^ 64
    rw [Nat.mod_eq_of_lt (by omega : a / 128 ^ k < 2 ^ 64), show 127 = 2 ^ 7 - 1 from rfl, Nat.and_two_pow_sub_one_eq_mod, show 2 ^ 7 = 128 from rfl]
    omega
  rw [e0, lN_i]
theorem acW_N {wa : Nat → Int32} {a : Nat → Nat} : ∀ {i : Nat}, i ≤ 6 → (∀ j, j < i → a j < 128 ∧ wa (4 + 3 * j) = nI (a j)) → acW wa i = lN (acN a i)
  | 0, _, _ => rfl
  | i + 1, hi, h => by
    have h1 := acN_lt (a := a) (i := i) (fun j hj => (h j (by omega)).1)
    have h2 := acN_lt (a := a) (i := i + 1) (fun j hj => (h j (by omega)).1)
    have h3 : (128 : Nat) ^ (i + 1) ≤ 128 ^ 6 := Nat.pow_le_pow_right (by decide) hi
    have h4 : (128 : Nat) ^ 6 < 2 ^ 63 := by decide
    simp only [acW]
    rw [acW_N (by omega) (fun j hj => h j (by omega)), (h i (by omega)).2, nI_l (by have := (h i (by omega)).1; omega), sh_63 i (by omega), l_shl _ i (by omega)]
    have e := p128 i (by omega)
    rw [e] at h1 ⊢
    have h5 : acN a i + a i * 2 ^ (7 * i) = acN a (i + 1) := by rw [← e]; rfl
    rw [l_or h1 (by omega) (by rw [h5]; omega), h5]
theorem gaF_ok {ga : Nat → Int64} {wa : Nat → Int32} {td n k : Nat} {a : Nat → Nat} (hn : n ≤ 6) (hk : k < n) (h : ∀ j, j < n → a j < 128 ∧ wa (4 + 3 * j) = nI (a j)) : gaF (gbF ga wa td n) td k = nI (a k) := by
  have h2 := acN_lt (a := a) (i := n) (fun j hj => (h j (by omega)).1)
  have h3 : (128 : Nat) ^ n ≤ 128 ^ 6 := Nat.pow_le_pow_right (by decide) hn
  have h4 : (128 : Nat) ^ 6 < 2 ^ 63 := by decide
  unfold gaF
  rw [gbF_at, acW_N hn h, l_get (by omega) (by omega), acN_at (fun j hj => (h j hj).1) hk]
