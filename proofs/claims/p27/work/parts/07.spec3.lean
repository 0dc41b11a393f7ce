/-! ===== what the class's own helpers answer ===== -/
theorem bi_one {P : Prop} {_ : Decidable P} : bi P = nI 1 ↔ P := by
  by_cases h : P
  · rw [bi_t h]; exact ⟨fun _ => h, fun _ => rfl⟩
  · rw [bi_f h]; exact ⟨fun q => absurd q (by decide), fun q => absurd q h⟩
theorem one_of {w : Int32} (h : x_in w 1) (h0 : ¬ w = nI 0) : w = nI 1 := by
  obtain ⟨k, hk, rfl⟩ := x_in_of h (by decide)
  rcases (show k = 0 ∨ k = 1 by omega) with rfl | rfl
  · exact absurd rfl h0
  · rfl
theorem zero_ne {w : Int32} (h : w = nI 0) : ¬ w = nI 1 := by
  subst h
  decide
theorem ch_ok {n : Nat} {kd ag : Nat → Int32} {x w : Int32} (h1 : ¬ x < 0) (h2 : ¬ nI 400 < x) (h3 : ¬ w < 0) (h4 : w ≤ nI 1) (hn : ¬ n = 0) : chF n kd ag x w = chN n kd ag x w := by
  unfold chF
  rw [if_pos ⟨⟨Int32.not_lt.mp h1, Int32.not_lt.mp h2⟩, Int32.not_lt.mp h3, h4⟩, if_neg hn]
theorem dgS_p {n : Nat} {kd ag pa : Nat → Int32} {td : Nat} {cb : Nat → Bool} {h : Int64} (e : ¬ n = 0) : dgS n kd ag pa td cb h =
  mx (mx (mx (mx (mx (mx h (if n = 0 then -103 else nI (wkF n (nmF kd ag) n)).toInt64) (chF n kd ag (nI 9) (nI 0)).toInt64) (chF n kd ag (nI 9) (nI 1)).toInt64) (dysF n cb td (nI 0)).toInt64) (dysF n cb td (nI 1)).toInt64) (if n = 0 then -103 else askF n kd ag pa cb td).toInt64 := by
  have c0 : chF n kd ag (nI 9) (nI 0) = chN n kd ag (nI 9) (nI 0) := ch_ok (by decide) (by decide) (by decide) (by decide) e
  have c1 : chF n kd ag (nI 9) (nI 1) = chN n kd ag (nI 9) (nI 1) := ch_ok (by decide) (by decide) (by decide) (by decide) e
  have d0 : dysF n cb td (nI 0) = dyF cb td (nI 0) := by
    unfold dysF
    rw [if_pos ⟨by decide, by decide⟩, if_neg e]
  have d1 : dysF n cb td (nI 1) = dyF cb td (nI 1) := by
    unfold dysF
    rw [if_pos ⟨by decide, by decide⟩, if_neg e]
  rw [c0, c1, d0, d1, if_neg e, if_neg e]
  unfold dgS
  rw [if_neg e]
/-- the tally of numbers, as far as day i -/
def tyP (cb : Nat → Bool) (v : Nat → Int32) (x d : Nat) : Bool := cb d && decide ((v d).toNatClampNeg = x)
def tyF (cb : Nat → Bool) (v : Nat → Int32) (i : Nat) : Nat → Int32 := fun x => nI (cn (tyP cb v x) i)
abbrev v40 (v : Nat → Int32) (td : Nat) : Prop := ∀ d, d ≤ td → (v d).toNatClampNeg < 40 ∧ v d = nI (v d).toNatClampNeg
theorem ty_f {cb : Nat → Bool} {v : Nat → Int32} {i : Nat} (h : ¬ cb i = true) : tyF cb v (i + 1) = tyF cb v i := by
  funext x
  unfold tyF
  rw [cn_f (by unfold tyP; rw [Bool.eq_false_iff.mpr h]; rfl)]
theorem ty_s {cb : Nat → Bool} {v : Nat → Int32} {i : Nat} (h : cb i = true) : upd (tyF cb v i) (v i).toNatClampNeg (tyF cb v i (v i).toNatClampNeg + nI 1) = tyF cb v (i + 1) := by
  funext x
  unfold upd tyF
  by_cases hx : x = (v i).toNatClampNeg
  · rw [if_pos hx, cn_t (by unfold tyP; rw [h, hx, decide_eq_true rfl]; rfl), hx, nI_succ (cn _ i)]; rfl
  · rw [if_neg hx, cn_f (by unfold tyP; rw [decide_eq_false (fun q => hx q.symm)]; exact Bool.and_false _)]
theorem ty_at {cb : Nat → Bool} {v : Nat → Int32} {td i : Nat} (hv : v40 v td) (hi : i ≤ td) : tyF cb v (i + 1) (v i).toNatClampNeg = nI (cn (woQ cb v i) (i + 1)) := by
  unfold tyF
  rw [cn_c (q := woQ cb v i)]
  intro j hj
  unfold tyP woQ
  congr 1
  apply decide_eq_decide.mpr
  refine ⟨fun q => ?_, fun q => by rw [q]⟩
  rw [(hv i hi).2, (hv j (by omega)).2, q]
def moF (cb : Nat → Bool) (v : Nat → Int32) : Nat → Nat
  | 0 => 0
  | i + 1 => if cb i = true then max (moF cb v i) (cn (woQ cb v i) (i + 1)) else moF cb v i
theorem mo_f {cb : Nat → Bool} {v : Nat → Int32} {i : Nat} (h : ¬ cb i = true) : moF cb v (i + 1) = moF cb v i := if_neg h
theorem mo_le {cb : Nat → Bool} {v : Nat → Int32} : ∀ {i : Nat}, moF cb v i ≤ i
  | 0 => Nat.le_refl _
  | i + 1 => by
    have h1 := mo_le (cb := cb) (v := v) (i := i)
    have h2 := cn_le (woQ cb v i) (i + 1)
    simp only [moF]
    split <;> omega
theorem mo_s {cb : Nat → Bool} {v : Nat → Int32} {i : Nat} (h : cb i = true) (hi : i < 1000) : (if nI (moF cb v i) < nI (cn (woQ cb v i) (i + 1)) then nI (cn (woQ cb v i) (i + 1)) else nI (moF cb v i)) = nI (moF cb v (i + 1)) := by
  have h1 := mo_le (cb := cb) (v := v) (i := i)
  have h2 := cn_le (woQ cb v i) (i + 1)
  have e : moF cb v (i + 1) = max (moF cb v i) (cn (woQ cb v i) (i + 1)) := if_pos h
  rw [e]
  by_cases q : moF cb v i < cn (woQ cb v i) (i + 1)
  · rw [if_pos (nI_lt q (by omega)), Nat.max_eq_right (Nat.le_of_lt q)]
  · rw [if_neg (fun r => q ((nI_ltI (by omega) (by omega)).mp r)), Nat.max_eq_left (Nat.le_of_not_lt q)]
def woK (cb : Nat → Bool) (v : Nat → Int32) (k a : Nat) : Nat := if cb a = true then cn (woQ cb v a) k else 0
theorem woK_t {cb : Nat → Bool} {v : Nat → Int32} {k a : Nat} (h : cb a = true) : woK cb v k a = cn (woQ cb v a) k := if_pos h
theorem woK_f {cb : Nat → Bool} {v : Nat → Int32} {k a : Nat} (h : ¬ cb a = true) : woK cb v k a = 0 := if_neg h
theorem mxF_c {f g : Nat → Nat} : ∀ {n : Nat}, (∀ j, j < n → f j = g j) → mxF f n = mxF g n
  | 0, _ => rfl
  | n + 1, h => by
    simp only [mxF]
    rw [mxF_c (n := n) (fun j hj => h j (by omega)), h n (by omega)]
theorem moF_wo {cb : Nat → Bool} {v : Nat → Int32} : ∀ {k : Nat}, moF cb v k = mxF (woK cb v k) k
  | 0 => rfl
  | k + 1 => by
    have ih := moF_wo (cb := cb) (v := v) (k := k)
    by_cases h : cb k = true
    · have e : moF cb v (k + 1) = max (moF cb v k) (cn (woQ cb v k) (k + 1)) := if_pos h
      rw [e, ih]
      apply Nat.le_antisymm
      · refine Nat.max_le.mpr ⟨?_, ?_⟩
        · refine mxF_le (fun j hj => Nat.le_trans ?_ (mxF_ge (f := woK cb v (k + 1)) (n := k + 1) (j := j) (by omega)))
          by_cases hj : cb j = true
          · rw [woK_t hj, woK_t hj]; simp only [cn]; omega
          · rw [woK_f hj]; exact Nat.zero_le _
        · have := mxF_ge (f := woK cb v (k + 1)) (n := k + 1) (j := k) (by omega)
          rw [woK_t h] at this
          exact this
      · refine mxF_le (fun j hj => ?_)
        by_cases hjk : j = k
        · rw [hjk, woK_t h]; exact Nat.le_max_right _ _
        · by_cases hj2 : cb j = true
          · rw [woK_t hj2]
            by_cases hv : v j = v k
            · have e2 : woQ cb v j = woQ cb v k := by
                funext b
                unfold woQ
                rw [hv]
              rw [e2]; exact Nat.le_max_right _ _
            · rw [cn_f (by unfold woQ; rw [decide_eq_false hv]; exact Bool.and_false _)]
              have := mxF_ge (f := woK cb v k) (n := k) (j := j) (by omega)
              rw [woK_t hj2] at this
              exact Nat.le_trans this (Nat.le_max_left _ _)
          · rw [woK_f hj2]; exact Nat.zero_le _
    · rw [mo_f h, ih]
      have e : ∀ j, woK cb v (k + 1) j = woK cb v k j := by
        intro j
        by_cases hj : cb j = true
        · rw [woK_t hj, woK_t hj, cn_f (by unfold woQ; rw [Bool.eq_false_iff.mpr h]; rfl)]
        · rw [woK_f hj, woK_f hj]
      simp only [mxF]
      rw [mxF_c (fun j _ => e j), woK_f h]
      exact (Nat.max_eq_left (Nat.zero_le _)).symm
theorem mo_wo {cb : Nat → Bool} {v : Nat → Int32} {td i : Nat} (h : i = td + 1) : moF cb v i = woF cb v td := by
  rw [h, moF_wo]
  exact mxF_c (fun j _ => rfl)
/-- ask, with no fewest at first -/
def asM (w : Nat → Nat) (f0 i : Nat) : Nat := if i = 0 then 0 else asL w f0 i
theorem asL_lt {w : Nat → Nat} {f0 : Nat} (hw : ∀ h, w h < f0) : ∀ {i : Nat}, 0 < i → asL w f0 i < f0
  | 0, h => by omega
  | i + 1, _ => by
    have h1 := hw i
    have h2 := asL_le (w := w) (f0 := f0) (h := i)
    simp only [asL]
    split <;> omega
theorem asB_nn {w : Nat → Nat} {f0 : Nat} (hw : ∀ h, w h < f0) : ∀ {i : Nat}, 0 < i → i < 1000 → ¬ asB w f0 i = -1
  | 0, h, _ => by omega
  | i + 1, _, hi => by
    simp only [asB]
    split
    · intro q
      have h3 := nI_pos' (n := i) (by omega)
      rw [q] at h3
      exact absurd h3 (by decide)
    · rename_i hlt
      by_cases h0 : i = 0
      · exfalso
        subst h0
        exact hlt (hw 0)
      · exact asB_nn hw (by omega) (by omega)
theorem as_0 {w : Nat → Nat} {f0 i : Nat} (hw : ∀ h, w h < f0) (hi : i < 1000) (h : asB w f0 i = -1) : i = 0 := by
  apply Classical.byContradiction
  intro q
  exact asB_nn hw (by omega) hi h
theorem asF1 {w : Nat → Nat} {f0 i : Nat} (hw : ∀ h, w h < f0) (hi : i < 1000) (h : asB w f0 i = -1) : asB w f0 (i + 1) = nI i := by
  have := as_0 hw hi h
  subst this
  exact asB_2 rfl (hw 0)
theorem asF2 {w : Nat → Nat} {f0 i : Nat} (hw : ∀ h, w h < f0) (hi : i < 1000) (h : asB w f0 i = -1) : asM w f0 (i + 1) = w i := by
  have := as_0 hw hi h
  subst this
  show asL w f0 1 = w 0
  exact asL_2 rfl (hw 0)
theorem asM_i {w : Nat → Nat} {f0 i : Nat} (h : ¬ asB w f0 i = -1) : asM w f0 i = asL w f0 i := by
  unfold asM
  rw [if_neg (fun q => h (by rw [q]; rfl))]
theorem asM_s {w : Nat → Nat} {f0 i : Nat} : asM w f0 (i + 1) = asL w f0 (i + 1) := rfl
theorem asM_le {w : Nat → Nat} {f0 i : Nat} : asM w f0 i ≤ f0 := by
  unfold asM
  split
  · exact Nat.zero_le _
  · exact asL_le
theorem as_none {w : Nat → Nat} : ∀ {i : Nat}, asB w 0 i = -1
  | 0 => rfl
  | i + 1 => by
    simp only [asB]
    rw [if_neg (by have := asL_le (w := w) (f0 := 0) (h := i); omega)]
    exact as_none
theorem ask_none {n : Nat} {kd ag pa : Nat → Int32} {cb : Nat → Bool} {td : Nat} (h : cn cb (td + 1) = 0) : askF n kd ag pa cb td = -1 := by
  unfold askF f0F
  rw [if_pos h]
  exact as_none
theorem ask_some {n : Nat} {kd ag pa : Nat → Int32} {cb : Nat → Bool} {td : Nat} (h : ¬ cn cb (td + 1) = 0) : askF n kd ag pa cb td = asB (fun h => woF cb (nOf kd ag pa td h) td) 268435456 n := by
  unfold askF f0F
  rw [if_neg h]
theorem wsets_c {ws ws' R : va_W} {i : Nat} {is : List Nat} {x : Nat × va_E} {xs : va_W} (h : ws.set i x = ws') (k : wsets ws' is xs = R) : wsets ws (i :: is) (x :: xs) = R := by
  show wsets (ws.set i x) is xs = R
  rw [h]
  exact k
theorem set_same {ws : va_W} {i : Nat} {x : Nat × va_E} (h : ws[i]? = some x) : ws.set i x = ws := by
  apply List.ext_getElem?
  intro j
  rw [List.getElem?_set]
  by_cases h1 : i = j
  · subst h1
    rw [if_pos rfl]
    split
    · exact h.symm
    · rename_i h2
      rw [List.getElem?_eq_none (Nat.le_of_not_lt h2)] at h
      cases h
  · rw [if_neg h1]
