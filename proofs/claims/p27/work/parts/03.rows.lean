/-! ===== rows over natural numbers: nI k on the stack ===== -/
theorem nI_i1 (j : Nat) : nI j + Int32.ofInt 1 = nI (j + 1) := nI_1 j
theorem ret_t {P : Prop} {_ : Decidable P} (h : P) : nI 1 = bi P := (bi_t h).symm
theorem ret_f {P : Prop} {_ : Decidable P} (h : ¬ P) : nI 0 = bi P := (bi_f h).symm
theorem nI_dec (j : Nat) : nI (j + 1) + Int32.ofInt (-1) = nI j := pk_m1 j
theorem nI_31 {a : Nat} (h : a < 2147483648) : a < 2 ^ 31 := h
section NV
variable {p : Program} {l : Launch} {e : Env} {R : Room} {s : State} {m : MethodId} {args : Array Value} {below : List Frame} {meth : Method} {c : Code} {H : Heap} {locs : List Loc} {cells slots : Nat} {Q : State → Prop}
variable {cc : ByteArray} {pc : Nat} {ls : Array Slot} {rest : List Value}
theorem nv_iadd (hx : p.tables.exec = Jvm.exec) (hb : c.code = cc) {a b : Nat} (hdg : decode cc pc = .ok (.iadd, 1)) (k : W p l e R s m args below meth c H locs cells slots Q (F0 m (pc + 1) ls (.int (nI (a + b)) :: rest))) : W p l e R s m args below meth c H locs cells slots Q (F0 m pc ls (.int (nI b) :: .int (nI a) :: rest)) :=
  lv_iadd hx hb hdg (by rw [nI_add]; exact k)
theorem nv_imul (hx : p.tables.exec = Jvm.exec) (hb : c.code = cc) {a b : Nat} (hdg : decode cc pc = .ok (.imul, 1)) (k : W p l e R s m args below meth c H locs cells slots Q (F0 m (pc + 1) ls (.int (nI (a * b)) :: rest))) : W p l e R s m args below meth c H locs cells slots Q (F0 m pc ls (.int (nI b) :: .int (nI a) :: rest)) :=
  lv_imul hx hb hdg (by rw [pk_mul]; exact k)
theorem nv_isub (hx : p.tables.exec = Jvm.exec) (hb : c.code = cc) {a b : Nat} (hdg : decode cc pc = .ok (.isub, 1)) (h : b ≤ a) (k : W p l e R s m args below meth c H locs cells slots Q (F0 m (pc + 1) ls (.int (nI (a - b)) :: rest))) : W p l e R s m args below meth c H locs cells slots Q (F0 m pc ls (.int (nI b) :: .int (nI a) :: rest)) :=
  lv_isub hx hb hdg (by rw [pk_sub h]; exact k)
theorem nv_idiv (hx : p.tables.exec = Jvm.exec) (hb : c.code = cc) {a b : Nat} (hdg : decode cc pc = .ok (.idiv, 1)) (ha : a < 2147483648) (h0 : 0 < b) (hd : b < 2147483648) (k : W p l e R s m args below meth c H locs cells slots Q (F0 m (pc + 1) ls (.int (nI (a / b)) :: rest))) : W p l e R s m args below meth c H locs cells slots Q (F0 m pc ls (.int (nI b) :: .int (nI a) :: rest)) :=
  lv_idiv hx hb hdg (nI_ne0 h0 hd) (by rw [pk_div ha h0 hd]; exact k)
theorem nv_irem (hx : p.tables.exec = Jvm.exec) (hb : c.code = cc) {a b : Nat} (hdg : decode cc pc = .ok (.irem, 1)) (ha : a < 2147483648) (h0 : 0 < b) (hd : b < 2147483648) (k : W p l e R s m args below meth c H locs cells slots Q (F0 m (pc + 1) ls (.int (nI (a % b)) :: rest))) : W p l e R s m args below meth c H locs cells slots Q (F0 m pc ls (.int (nI b) :: .int (nI a) :: rest)) :=
  lv_irem hx hb hdg (nI_ne0 h0 hd) (by rw [pk_rem ha h0 hd]; exact k)
theorem nv_icmp_eq (hx : p.tables.exec = Jvm.exec) (hb : c.code = cc) {a b : Nat} {off : Int} {tgt : Nat} (hdg : decode cc pc = .ok (.if_icmp .eq off, 3)) (ha : a < 2147483648) (hb1 : b < 2147483648) (ht : (pc : Int) + off = (tgt : Int))
    (kt : a = b → W p l e R s m args below meth c H locs cells slots Q (F0 m tgt ls rest)) (kf : ¬ a = b → W p l e R s m args below meth c H locs cells slots Q (F0 m (pc + 3) ls rest)) : W p l e R s m args below meth c H locs cells slots Q (F0 m pc ls (.int (nI b) :: .int (nI a) :: rest)) :=
  lv_icmp_eq hx hb hdg ht (fun h => kt ((nI_eq ha hb1).mp h)) (fun h => kf (fun q => h ((nI_eq ha hb1).mpr q)))
theorem nv_icmp_ne (hx : p.tables.exec = Jvm.exec) (hb : c.code = cc) {a b : Nat} {off : Int} {tgt : Nat} (hdg : decode cc pc = .ok (.if_icmp .ne off, 3)) (ha : a < 2147483648) (hb1 : b < 2147483648) (ht : (pc : Int) + off = (tgt : Int))
    (kt : ¬ a = b → W p l e R s m args below meth c H locs cells slots Q (F0 m tgt ls rest)) (kf : a = b → W p l e R s m args below meth c H locs cells slots Q (F0 m (pc + 3) ls rest)) : W p l e R s m args below meth c H locs cells slots Q (F0 m pc ls (.int (nI b) :: .int (nI a) :: rest)) :=
  lv_icmp_ne hx hb hdg ht (fun h => kt (fun q => h ((nI_eq ha hb1).mpr q))) (fun h => kf ((nI_eq ha hb1).mp h))
theorem nv_icmp_lt (hx : p.tables.exec = Jvm.exec) (hb : c.code = cc) {a b : Nat} {off : Int} {tgt : Nat} (hdg : decode cc pc = .ok (.if_icmp .lt off, 3)) (ha : a < 2147483648) (hb1 : b < 2147483648) (ht : (pc : Int) + off = (tgt : Int))
    (kt : a < b → W p l e R s m args below meth c H locs cells slots Q (F0 m tgt ls rest)) (kf : b ≤ a → W p l e R s m args below meth c H locs cells slots Q (F0 m (pc + 3) ls rest)) : W p l e R s m args below meth c H locs cells slots Q (F0 m pc ls (.int (nI b) :: .int (nI a) :: rest)) :=
  lv_icmp_lt hx hb hdg ht (fun h => kt ((nI_ltI ha hb1).mp h)) (fun h => kf (Nat.le_of_not_lt (fun q => h ((nI_ltI ha hb1).mpr q))))
theorem nv_icmp_ge (hx : p.tables.exec = Jvm.exec) (hb : c.code = cc) {a b : Nat} {off : Int} {tgt : Nat} (hdg : decode cc pc = .ok (.if_icmp .ge off, 3)) (ha : a < 2147483648) (hb1 : b < 2147483648) (ht : (pc : Int) + off = (tgt : Int))
    (kt : b ≤ a → W p l e R s m args below meth c H locs cells slots Q (F0 m tgt ls rest)) (kf : a < b → W p l e R s m args below meth c H locs cells slots Q (F0 m (pc + 3) ls rest)) : W p l e R s m args below meth c H locs cells slots Q (F0 m pc ls (.int (nI b) :: .int (nI a) :: rest)) :=
  lv_icmp_ge hx hb hdg ht (fun h => kt ((nI_leI hb1 ha).mp h)) (fun h => kf (Nat.lt_of_not_le (fun q => h ((nI_leI hb1 ha).mpr q))))
theorem nv_icmp_gt (hx : p.tables.exec = Jvm.exec) (hb : c.code = cc) {a b : Nat} {off : Int} {tgt : Nat} (hdg : decode cc pc = .ok (.if_icmp .gt off, 3)) (ha : a < 2147483648) (hb1 : b < 2147483648) (ht : (pc : Int) + off = (tgt : Int))
    (kt : b < a → W p l e R s m args below meth c H locs cells slots Q (F0 m tgt ls rest)) (kf : a ≤ b → W p l e R s m args below meth c H locs cells slots Q (F0 m (pc + 3) ls rest)) : W p l e R s m args below meth c H locs cells slots Q (F0 m pc ls (.int (nI b) :: .int (nI a) :: rest)) :=
  lv_icmp_gt hx hb hdg ht (fun h => kt ((nI_ltI hb1 ha).mp h)) (fun h => kf (Nat.le_of_not_lt (fun q => h ((nI_ltI hb1 ha).mpr q))))
theorem nv_icmp_le (hx : p.tables.exec = Jvm.exec) (hb : c.code = cc) {a b : Nat} {off : Int} {tgt : Nat} (hdg : decode cc pc = .ok (.if_icmp .le off, 3)) (ha : a < 2147483648) (hb1 : b < 2147483648) (ht : (pc : Int) + off = (tgt : Int))
    (kt : a ≤ b → W p l e R s m args below meth c H locs cells slots Q (F0 m tgt ls rest)) (kf : b < a → W p l e R s m args below meth c H locs cells slots Q (F0 m (pc + 3) ls rest)) : W p l e R s m args below meth c H locs cells slots Q (F0 m pc ls (.int (nI b) :: .int (nI a) :: rest)) :=
  lv_icmp_le hx hb hdg ht (fun h => kt ((nI_leI ha hb1).mp h)) (fun h => kf (Nat.lt_of_not_le (fun q => h ((nI_leI ha hb1).mpr q))))
theorem nv_if_eq (hx : p.tables.exec = Jvm.exec) (hb : c.code = cc) {a : Nat} {off : Int} {tgt : Nat} (hdg : decode cc pc = .ok (.ifCond .eq off, 3)) (ha : a < 2147483648) (ht : (pc : Int) + off = (tgt : Int))
    (kt : a = 0 → W p l e R s m args below meth c H locs cells slots Q (F0 m tgt ls rest)) (kf : ¬ a = 0 → W p l e R s m args below meth c H locs cells slots Q (F0 m (pc + 3) ls rest)) : W p l e R s m args below meth c H locs cells slots Q (F0 m pc ls (.int (nI a) :: rest)) :=
  lv_if_eq hx hb hdg ht (fun h => kt ((nI_eq (b := 0) ha (by decide)).mp h)) (fun h => kf (fun q => h ((nI_eq (b := 0) ha (by decide)).mpr q)))
theorem nv_if_ne (hx : p.tables.exec = Jvm.exec) (hb : c.code = cc) {a : Nat} {off : Int} {tgt : Nat} (hdg : decode cc pc = .ok (.ifCond .ne off, 3)) (ha : a < 2147483648) (ht : (pc : Int) + off = (tgt : Int))
    (kt : ¬ a = 0 → W p l e R s m args below meth c H locs cells slots Q (F0 m tgt ls rest)) (kf : a = 0 → W p l e R s m args below meth c H locs cells slots Q (F0 m (pc + 3) ls rest)) : W p l e R s m args below meth c H locs cells slots Q (F0 m pc ls (.int (nI a) :: rest)) :=
  lv_if_ne hx hb hdg ht (fun h => kt (fun q => h ((nI_eq (b := 0) ha (by decide)).mpr q))) (fun h => kf ((nI_eq (b := 0) ha (by decide)).mp h))
theorem nv_if_lt (hx : p.tables.exec = Jvm.exec) (hb : c.code = cc) {a : Nat} {off : Int} {tgt : Nat} (hdg : decode cc pc = .ok (.ifCond .lt off, 3)) (ha : a < 2147483648) (ht : (pc : Int) + off = (tgt : Int))
    (kf : W p l e R s m args below meth c H locs cells slots Q (F0 m (pc + 3) ls rest)) : W p l e R s m args below meth c H locs cells slots Q (F0 m pc ls (.int (nI a) :: rest)) :=
  lv_if_lt hx hb hdg ht (fun h => absurd h (nI_pos ha)) (fun _ => kf)
theorem nv_if_ge (hx : p.tables.exec = Jvm.exec) (hb : c.code = cc) {a : Nat} {off : Int} {tgt : Nat} (hdg : decode cc pc = .ok (.ifCond .ge off, 3)) (ha : a < 2147483648) (ht : (pc : Int) + off = (tgt : Int))
    (kt : W p l e R s m args below meth c H locs cells slots Q (F0 m tgt ls rest)) : W p l e R s m args below meth c H locs cells slots Q (F0 m pc ls (.int (nI a) :: rest)) :=
  lv_if_ge hx hb hdg ht (fun _ => kt) (fun h => absurd (nI_pos' ha) h)
theorem nv_if_le (hx : p.tables.exec = Jvm.exec) (hb : c.code = cc) {a : Nat} {off : Int} {tgt : Nat} (hdg : decode cc pc = .ok (.ifCond .le off, 3)) (ha : a < 2147483648) (ht : (pc : Int) + off = (tgt : Int))
    (kt : a = 0 → W p l e R s m args below meth c H locs cells slots Q (F0 m tgt ls rest)) (kf : ¬ a = 0 → W p l e R s m args below meth c H locs cells slots Q (F0 m (pc + 3) ls rest)) : W p l e R s m args below meth c H locs cells slots Q (F0 m pc ls (.int (nI a) :: rest)) :=
  lv_if_le hx hb hdg ht (fun h => kt (Nat.le_zero.mp ((nI_leI (b := 0) ha (by decide)).mp h))) (fun h => kf (fun q => h ((nI_leI (b := 0) ha (by decide)).mpr (by omega))))
theorem bv_if_eq (hx : p.tables.exec = Jvm.exec) (hb : c.code = cc) {P : Prop} {dp : Decidable P} {off : Int} {tgt : Nat} (hdg : decode cc pc = .ok (.ifCond .eq off, 3)) (ht : (pc : Int) + off = (tgt : Int))
    (kt : ¬ P → W p l e R s m args below meth c H locs cells slots Q (F0 m tgt ls rest)) (kf : P → W p l e R s m args below meth c H locs cells slots Q (F0 m (pc + 3) ls rest)) : W p l e R s m args below meth c H locs cells slots Q (F0 m pc ls (.int (bi P) :: rest)) :=
  lv_if_eq hx hb hdg ht (fun h => kt (bi_0.mp h)) (fun h => kf (Decidable.not_not.mp (fun q => h (bi_0.mpr q))))
theorem bv_if_ne (hx : p.tables.exec = Jvm.exec) (hb : c.code = cc) {P : Prop} {dp : Decidable P} {off : Int} {tgt : Nat} (hdg : decode cc pc = .ok (.ifCond .ne off, 3)) (ht : (pc : Int) + off = (tgt : Int))
    (kt : P → W p l e R s m args below meth c H locs cells slots Q (F0 m tgt ls rest)) (kf : ¬ P → W p l e R s m args below meth c H locs cells slots Q (F0 m (pc + 3) ls rest)) : W p l e R s m args below meth c H locs cells slots Q (F0 m pc ls (.int (bi P) :: rest)) :=
  lv_if_ne hx hb hdg ht (fun h => kt (Decidable.not_not.mp (fun q => h (bi_0.mpr q)))) (fun h => kf (bi_0.mp h))
variable {D : va_G} {cl : List vw_C} {A : Nat → Prop} {a : Nat} {tys : List (ClassId × FieldType)} {ws : va_W} {H0 : Heap}
theorem nv_iald (hexec : p.tables.exec = Jvm.exec) (hb : c.code = cc) (hK : va_K D cl tys s) (hP : va_P D cl ws H) (q0 t0 : Nat) {cA : ClassId} {n : Nat} {f : Nat → Int32} (ha : ws[q0]? = some (a, .inl (cA, n, .inl f))) (ht : tys[t0]? = some (cA, .int)) {i : Nat} (hin : i < n) (hn : n < 2147483648) (hdg : decode cc pc = .ok (.iaload, 1))
    (kk : W p l e R s m args below meth c H locs cells slots Q (F0 m (pc + 1) ls (.int (f i) :: rest))) : W p l e R s m args below meth c H locs cells slots Q (F0 m pc ls (.int (nI i) :: .ref a :: rest)) :=
  va_iald hexec hb hK hP q0 t0 ha ht (vp_in_nI hin hn) hdg (by rw [nI_clamp (Nat.lt_trans hin hn)]; exact kk)
theorem nv_bald (hexec : p.tables.exec = Jvm.exec) (hb : c.code = cc) (hK : va_K D cl tys s) (hP : va_P D cl ws H) (q0 t0 : Nat) {cA : ClassId} {n : Nat} {f : Nat → Int32} (ha : ws[q0]? = some (a, .inl (cA, n, .inl f))) (ht : tys[t0]? = some (cA, .byte)) {i : Nat} (hin : i < n) (hn : n < 2147483648) (hdg : decode cc pc = .ok (.baload, 1))
    (kk : W p l e R s m args below meth c H locs cells slots Q (F0 m (pc + 1) ls (.int (f i) :: rest))) : W p l e R s m args below meth c H locs cells slots Q (F0 m pc ls (.int (nI i) :: .ref a :: rest)) :=
  va_bald hexec hb hK hP q0 t0 ha ht (vp_in_nI hin hn) hdg (by rw [nI_clamp (Nat.lt_trans hin hn)]; exact kk)
theorem nv_iast (hexec : p.tables.exec = Jvm.exec) (hb : c.code = cc) (hK : va_K D cl tys s) (hP : va_P D cl ws H) (hD : va_D A ws) (hS : va_S A H0 H locs) (q0 t0 : Nat) {cA : ClassId} {n : Nat} {f : Nat → Int32} (ha : ws[q0]? = some (a, .inl (cA, n, .inl f))) (ht : tys[t0]? = some (cA, .int)) {i : Nat} {x : Int32} (hin : i < n) (hn : n < 2147483648) (hdg : decode cc pc = .ok (.iastore, 1))
    (kk : ∀ (H1 : Heap) (locs1 : List Loc), va_P D cl (ws.set q0 (a, .inl (cA, n, .inl (upd f i x)))) H1 → va_D A (ws.set q0 (a, .inl (cA, n, .inl (upd f i x)))) → va_S A H0 H1 locs1 → W p l e R s m args below meth c H1 locs1 cells slots Q (F0 m (pc + 1) ls rest)) : W p l e R s m args below meth c H locs cells slots Q (F0 m pc ls (.int x :: .int (nI i) :: .ref a :: rest)) :=
  va_iast hexec hb hK hP hD hS q0 t0 ha ht (vp_in_nI hin hn) hdg (by rw [nI_clamp (Nat.lt_trans hin hn)]; exact kk)
theorem nv_bast (hexec : p.tables.exec = Jvm.exec) (hb : c.code = cc) (hK : va_K D cl tys s) (hP : va_P D cl ws H) (hD : va_D A ws) (hS : va_S A H0 H locs) (q0 t0 : Nat) {cA : ClassId} {n : Nat} {f : Nat → Int32} (ha : ws[q0]? = some (a, .inl (cA, n, .inl f))) (ht : tys[t0]? = some (cA, .byte)) {i : Nat} {x : Int32} (hin : i < n) (hn : n < 2147483648) (hdg : decode cc pc = .ok (.bastore, 1))
    (kk : ∀ (H1 : Heap) (locs1 : List Loc), va_P D cl (ws.set q0 (a, .inl (cA, n, .inl (upd f i (vp_nar .byte x))))) H1 → va_D A (ws.set q0 (a, .inl (cA, n, .inl (upd f i (vp_nar .byte x))))) → va_S A H0 H1 locs1 → W p l e R s m args below meth c H1 locs1 cells slots Q (F0 m (pc + 1) ls rest)) : W p l e R s m args below meth c H locs cells slots Q (F0 m pc ls (.int x :: .int (nI i) :: .ref a :: rest)) :=
  va_bast hexec hb hK hP hD hS q0 t0 ha ht (vp_in_nI hin hn) hdg (by rw [nI_clamp (Nat.lt_trans hin hn)]; exact kk)
/-- a loop that changes no cell: j is how often it went round -/
theorem loopR {nL : Nat} (B : Nat) (I : Nat → Prop) (lv : Nat → List (Nat × Value)) {st : List Value} (j0 : Nat) (hj0 : j0 ≤ B) (h0 : I j0) (hl0 : lv_has ls nL (lv j0))
    (body : ∀ (j : Nat) (ls : Array Slot), j ≤ B → I j → lv_has ls nL (lv j) → (∀ ls' : Array Slot, j + 1 ≤ B → I (j + 1) → lv_has ls' nL (lv (j + 1)) → W p l e R s m args below meth c H locs cells slots Q (F0 m pc ls' st)) → W p l e R s m args below meth c H locs cells slots Q (F0 m pc ls st)) : W p l e R s m args below meth c H locs cells slots Q (F0 m pc ls st) := by
  have key : ∀ (d j : Nat) (ls : Array Slot), B - j ≤ d → j ≤ B → I j → lv_has ls nL (lv j) → W p l e R s m args below meth c H locs cells slots Q (F0 m pc ls st) := by
    intro d
    induction d with
    | zero =>
      intro j ls hd hj hI hl
      exact body j ls hj hI hl (fun ls' h _ _ => absurd h (by omega))
    | succ d ih =>
      intro j ls hd hj hI hl
      exact body j ls hj hI hl (fun ls' h hI' hl' => ih (j + 1) ls' (by omega) h hI' hl')
  exact key (B - j0) j0 ls (Nat.le_refl _) hj0 h0 hl0
/-- a loop that changes cells; u is what else the world depends on -/
theorem loopW {nL : Nat} {S : Type} (B : Nat) (I : Nat → S → Prop) (lv : Nat → S → List (Nat × Value)) (wf : Nat → S → va_W) {st : List Value} (j0 : Nat) (u0 : S) (hj0 : j0 ≤ B) (h0 : I j0 u0) (hl0 : lv_has ls nL (lv j0 u0)) (hP0 : va_P D cl (wf j0 u0) H) (hD0 : va_D A (wf j0 u0)) (hS0 : va_S A H0 H locs)
    (body : ∀ (j : Nat) (u : S) (ls : Array Slot) (H : Heap) (locs : List Loc), j ≤ B → I j u → lv_has ls nL (lv j u) → va_P D cl (wf j u) H → va_D A (wf j u) → va_S A H0 H locs → (∀ (u' : S) (ls' : Array Slot) (H' : Heap) (locs' : List Loc), j + 1 ≤ B → I (j + 1) u' → lv_has ls' nL (lv (j + 1) u') → va_P D cl (wf (j + 1) u') H' → va_D A (wf (j + 1) u') → va_S A H0 H' locs' → W p l e R s m args below meth c H' locs' cells slots Q (F0 m pc ls' st)) → W p l e R s m args below meth c H locs cells slots Q (F0 m pc ls st)) : W p l e R s m args below meth c H locs cells slots Q (F0 m pc ls st) := by
  have key : ∀ (d j : Nat) (u : S) (ls : Array Slot) (H : Heap) (locs : List Loc), B - j ≤ d → j ≤ B → I j u → lv_has ls nL (lv j u) → va_P D cl (wf j u) H → va_D A (wf j u) → va_S A H0 H locs → W p l e R s m args below meth c H locs cells slots Q (F0 m pc ls st) := by
    intro d
    induction d with
    | zero =>
      intro j u ls H locs hd hj hI hl hP hD hS
      exact body j u ls H locs hj hI hl hP hD hS (fun _ _ _ _ h _ _ _ _ _ => absurd h (by omega))
    | succ d ih =>
      intro j u ls H locs hd hj hI hl hP hD hS
      exact body j u ls H locs hj hI hl hP hD hS (fun u' ls' H' locs' h hI' hl' hP' hD' hS' => ih (j + 1) u' ls' H' locs' (by omega) h hI' hl' hP' hD' hS')
  exact key (B - j0) j0 u0 ls H locs (Nat.le_refl _) hj0 h0 hl0 hP0 hD0 hS0
end NV
section WCALL2
variable {p : Program} {l : Launch} {e : Env} {R : Room} {s : State} {m : MethodId} {args : Array Value} {below : List Frame} {meth : Method} {c : Code} {H : Heap} {locs : List Loc} {cells slots : Nat} {Q : State → Prop}
variable {cc : ByteArray} {pc : Nat} {ls : Array Slot} {rest st : List Value} {nL idx n k : Nat} {own C : String} {y : MethodName} {bts : ByteArray} {ret : Option FieldType} {rm : Room} {Pc : Array Value → State → Prop} {b : Addr} {As : List Value} {A0 : Nat → Prop} {H0 : Heap} {D : va_G} {w : va_W}
theorem wrVi {S : Type} {w1 : S → va_W} {post : Int32 → S → Prop} (hx : p.tables.exec = Jvm.exec) (hb : c.code = cc) (hml : c.maxLocals = nL) (hown : s.vm.findClass own = some m.cls) (hg : ∀ w ∈ gG, w.before args s = true) (hM : Met l y (mw y bts n ret) rm Pc (wq mkI w w1 D post) 0 0 (inW w)) (hl : Cond.methodLink own idx y ∈ gG) (hy : vfacts C y bts n ret k) (hR : rm.frames + 1 ≤ R.frames ∧ 8 + (n + 11) + rm.locals ≤ R.locals) (hz : rm.cells = 0 ∧ rm.slots = 0) (hc : cells ≤ R.cells ∧ slots ≤ R.slots) (hp : PreV s H C b Pc As) (hn : As.length = k) (hsz : ls.size = nL) (hst : st = As.reverse ++ .ref b :: rest) (hroom : (rest.map fun v => v.category).sum ≤ 8) (hdg : decode cc pc = .ok (.invokevirtual idx, 3)) (hS : va_S A0 H0 H locs) (hf : ∀ q, inW w q → A0 q)
    (kk : ∀ (r : Int32) (u : S) (H1 : Heap) (locs1 : List Loc), post r u → va_P D vwCl (w1 u) H1 → (∀ q : Nat, q < H.size → ¬ inW w q → H1[q]? = H[q]?) → va_S A0 H0 H1 locs1 → W p l e R s m args below meth c H1 locs1 cells slots Q (F0 m (pc + 3) ls (.int r :: rest))) : W p l e R s m args below meth c H locs cells slots Q (F0 m pc ls st) :=
  wrV hx hb hml hown hg hM hl hy hR hz hc hp hn hsz hst hroom hdg hS hf kk
theorem wrVl {S : Type} {w1 : S → va_W} {post : Int64 → S → Prop} (hx : p.tables.exec = Jvm.exec) (hb : c.code = cc) (hml : c.maxLocals = nL) (hown : s.vm.findClass own = some m.cls) (hg : ∀ w ∈ gG, w.before args s = true) (hM : Met l y (mw y bts n ret) rm Pc (wq mkL w w1 D post) 0 0 (inW w)) (hl : Cond.methodLink own idx y ∈ gG) (hy : vfacts C y bts n ret k) (hR : rm.frames + 1 ≤ R.frames ∧ 8 + (n + 11) + rm.locals ≤ R.locals) (hz : rm.cells = 0 ∧ rm.slots = 0) (hc : cells ≤ R.cells ∧ slots ≤ R.slots) (hp : PreV s H C b Pc As) (hn : As.length = k) (hsz : ls.size = nL) (hst : st = As.reverse ++ .ref b :: rest) (hroom : (rest.map fun v => v.category).sum ≤ 8) (hdg : decode cc pc = .ok (.invokevirtual idx, 3)) (hS : va_S A0 H0 H locs) (hf : ∀ q, inW w q → A0 q)
    (kk : ∀ (r : Int64) (u : S) (H1 : Heap) (locs1 : List Loc), post r u → va_P D vwCl (w1 u) H1 → (∀ q : Nat, q < H.size → ¬ inW w q → H1[q]? = H[q]?) → va_S A0 H0 H1 locs1 → W p l e R s m args below meth c H1 locs1 cells slots Q (F0 m (pc + 3) ls (.long r :: rest))) : W p l e R s m args below meth c H locs cells slots Q (F0 m pc ls st) :=
  wrV hx hb hml hown hg hM hl hy hR hz hc hp hn hsz hst hroom hdg hS hf kk
theorem wrVv {S : Type} {w1 : S → va_W} {post : Unit → S → Prop} (hx : p.tables.exec = Jvm.exec) (hb : c.code = cc) (hml : c.maxLocals = nL) (hown : s.vm.findClass own = some m.cls) (hg : ∀ w ∈ gG, w.before args s = true) (hM : Met l y (mw y bts n ret) rm Pc (wq mkV w w1 D post) 0 0 (inW w)) (hl : Cond.methodLink own idx y ∈ gG) (hy : vfacts C y bts n ret k) (hR : rm.frames + 1 ≤ R.frames ∧ 8 + (n + 11) + rm.locals ≤ R.locals) (hz : rm.cells = 0 ∧ rm.slots = 0) (hc : cells ≤ R.cells ∧ slots ≤ R.slots) (hp : PreV s H C b Pc As) (hn : As.length = k) (hsz : ls.size = nL) (hst : st = As.reverse ++ .ref b :: rest) (hroom : (rest.map fun v => v.category).sum ≤ 8) (hdg : decode cc pc = .ok (.invokevirtual idx, 3)) (hS : va_S A0 H0 H locs) (hf : ∀ q, inW w q → A0 q)
    (kk : ∀ (u : S) (H1 : Heap) (locs1 : List Loc), post () u → va_P D vwCl (w1 u) H1 → (∀ q : Nat, q < H.size → ¬ inW w q → H1[q]? = H[q]?) → va_S A0 H0 H1 locs1 → W p l e R s m args below meth c H1 locs1 cells slots Q (F0 m (pc + 3) ls rest)) : W p l e R s m args below meth c H locs cells slots Q (F0 m pc ls st) :=
  wrV hx hb hml hown hg hM hl hy hR hz hc hp hn hsz hst hroom hdg hS hf (fun _ => kk)
end WCALL2
/-- an array's cells are its contents below its length -/
theorem P_congr {D : va_G} {ws : va_W} {H : Heap} {a : Nat} {cA : ClassId} {n : Nat} {f g : Nat → Int32} (hP : va_P D vwCl ws H) (q : Nat) (hq : ws[q]? = some (a, .inl (cA, n, .inl f))) (hfg : ∀ j : Nat, j < n → f j = g j) : va_P D vwCl (ws.set q (a, .inl (cA, n, .inl g))) H := by
  have e : vp_cell cA (n, .inl f) = vp_cell cA (n, .inl g) := by
    rw [vp_cell_i, vp_cell_i]
    unfold arrV
    congr 1
    apply Array.ext
    · simp
    · intro i h1 h2
      simp at h1 h2 ⊢
      exact hfg i h1
  intro k x hk
  rw [List.getElem?_set] at hk
  by_cases hqk : q = k
  · subst hqk
    rw [if_pos rfl] at hk
    split at hk
    · cases hk
      show H[a]? = some (vp_cell cA (n, .inl g))
      rw [← e]
      exact hP q _ hq
    · cases hk
  · rw [if_neg hqk] at hk
    exact hP k x hk
/-- f below i, g from i on -/
def cpF (f g : Nat → Int32) (i : Nat) : Nat → Int32 := fun j => if j < i then f j else g j
theorem cpF_0 {f g : Nat → Int32} : cpF f g 0 = g := by funext j; simp [cpF]
theorem cpF_s {f g : Nat → Int32} {i : Nat} {x : Int32} (h : x = f i) : upd (cpF f g i) i x = cpF f g (i + 1) := by
  funext j
  unfold upd cpF
  by_cases hj : j = i
  · rw [if_pos hj, if_pos (by omega), hj, h]
  · rw [if_neg hj]
    by_cases h1 : j < i
    · rw [if_pos h1, if_pos (by omega)]
    · rw [if_neg h1, if_neg (by omega)]
theorem cpF_at {f g : Nat → Int32} {n j : Nat} (h : j < n) : cpF f g n j = f j := if_pos h
theorem cpF_no {f g : Nat → Int32} {n j : Nat} (h : n ≤ j) : cpF f g n j = g j := if_neg (by omega)
theorem P_eq {D : va_G} {ws ws' : va_W} {H : Heap} (h : va_P D vwCl ws H) (e : ws = ws') : va_P D vwCl ws' H := e ▸ h
theorem D_eq {A : Nat → Prop} {ws ws' : va_W} (h : va_D A ws) (e : ws = ws') : va_D A ws' := e ▸ h
theorem P_c {D : va_G} {ws w : va_W} {H : Heap} {q : Nat × va_E} {i : Nat} (h : va_P D vwCl ws H) (hi : ws[i]? = some q) (hw : va_P D vwCl w H) : va_P D vwCl (q :: w) H := by
  intro k x hk
  cases k with
  | zero => cases hk; exact h i q hi
  | succ k => exact hw k x hk
theorem P_n {D : va_G} {H : Heap} : va_P D vwCl [] H := fun k q h => by simp at h
section PS
variable {D : va_G} {ws : va_W} {H : Heap} {q1 q2 q3 q4 q5 : Nat × va_E} {i1 i2 i3 i4 i5 : Nat}
theorem P_s1 (h : va_P D vwCl ws H) (h1 : ws[i1]? = some q1) : va_P D vwCl [q1] H := P_c h h1 P_n
theorem P_s2 (h : va_P D vwCl ws H) (h1 : ws[i1]? = some q1) (h2 : ws[i2]? = some q2) : va_P D vwCl [q1, q2] H := P_c h h1 (P_s1 h h2)
theorem P_s3 (h : va_P D vwCl ws H) (h1 : ws[i1]? = some q1) (h2 : ws[i2]? = some q2) (h3 : ws[i3]? = some q3) : va_P D vwCl [q1, q2, q3] H := P_c h h1 (P_s2 h h2 h3)
theorem P_s4 (h : va_P D vwCl ws H) (h1 : ws[i1]? = some q1) (h2 : ws[i2]? = some q2) (h3 : ws[i3]? = some q3) (h4 : ws[i4]? = some q4) : va_P D vwCl [q1, q2, q3, q4] H := P_c h h1 (P_s3 h h2 h3 h4)
theorem P_s5 (h : va_P D vwCl ws H) (h1 : ws[i1]? = some q1) (h2 : ws[i2]? = some q2) (h3 : ws[i3]? = some q3) (h4 : ws[i4]? = some q4) (h5 : ws[i5]? = some q5) : va_P D vwCl [q1, q2, q3, q4, q5] H := P_c h h1 (P_s4 h h2 h3 h4 h5)
theorem M_s2 (h1 : ws[i1]? = some q1) (h2 : ws[i2]? = some q2) : [i1, i2].map (fun i => ws[i]?) = List.map some [q1, q2] := by simp only [List.map, h1, h2]
theorem M_s3 (h1 : ws[i1]? = some q1) (h2 : ws[i2]? = some q2) (h3 : ws[i3]? = some q3) : [i1, i2, i3].map (fun i => ws[i]?) = List.map some [q1, q2, q3] := by simp only [List.map, h1, h2, h3]
theorem M_s4 (h1 : ws[i1]? = some q1) (h2 : ws[i2]? = some q2) (h3 : ws[i3]? = some q3) (h4 : ws[i4]? = some q4) : [i1, i2, i3, i4].map (fun i => ws[i]?) = List.map some [q1, q2, q3, q4] := by simp only [List.map, h1, h2, h3, h4]
theorem M_s5 (h1 : ws[i1]? = some q1) (h2 : ws[i2]? = some q2) (h3 : ws[i3]? = some q3) (h4 : ws[i4]? = some q4) (h5 : ws[i5]? = some q5) : [i1, i2, i3, i4, i5].map (fun i => ws[i]?) = List.map some [q1, q2, q3, q4, q5] := by simp only [List.map, h1, h2, h3, h4, h5]
end PS
