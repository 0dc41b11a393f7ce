/-! ===== the string "htmcb" ===== -/
def ES (aS aV : Nat) (A : Nat → Prop) (U : State) (H : Heap) : Prop := vk_S 1 [5] [[104, 116, 109, 99, 98]] (fun _ => aS) (fun _ => aV) A U H ∧ va_Z "java/lang/String" "COMPACT_STRINGS" "Z" (.int 1) A U H ∧ va_Zq "jdk/internal/util/Preconditions" "SIOOBE_FORMATTER" "Ljava/util/function/BiFunction;" A U H
theorem ES.moved {aS aV : Nat} {A : Nat → Prop} {u U : State} {H : Heap} (hvm : u.vm.Alike U.vm) (h : ES aS aV A u H) : ES aS aV A U H := ⟨vk_S.moved hvm h.1, va_Z.moved hvm h.2.1, va_Zq.moved hvm h.2.2⟩
theorem ES.kept {aS aV : Nat} {A : Nat → Prop} {U : State} {H H1 : Heap} (h : ES aS aV A U H) (hq : ∀ a : Nat, a < H.size → ¬ A a → H1[a]? = H[a]?) : ES aS aV A U H1 := ⟨h.1.kept hq, h.2.1.kept hq, h.2.2.kept hq⟩
theorem ES.narrow {aS aV : Nat} {A B : Nat → Prop} {U : State} {H : Heap} (h : ES aS aV A U H) (hAB : ∀ q, B q → A q) : ES aS aV B U H := ⟨h.1.narrow hAB, h.2.1.narrow hAB, h.2.2.narrow hAB⟩
theorem ES.none {aS aV : Nat} {A : Nat → Prop} {U : State} {H : Heap} (h : ES aS aV A U H) : ES aS aV (fun _ => False) U H := h.narrow (fun _ q => q.elim)
def RPE (D : va_G) (cI cB : ClassId) (aS aV : Nat) (A : Nat → Prop) (w : va_W) (av : List Value) : Array Value → State → Prop := fun v U => RP D cI cB aS w av v U ∧ ES aS aV A U U.heap
theorem RPE.blind {D : va_G} {cI cB : ClassId} {aS aV : Nat} {A : Nat → Prop} {w : va_W} {av : List Value} : FrameBlind (RPE D cI cB aS aV A w av) := fun a U g mk q => ⟨RP.blind a U g mk q.1, ES.moved (u := U) (U := U.calling g mk a) (Vm.Alike.refl U.vm) q.2⟩
theorem RPE.preS {D : va_G} {cI cB : ClassId} {aS aV : Nat} {A : Nat → Prop} {w : va_W} {s : State} {H : Heap} (hK : KP D cI cB aS s) (hE : ES aS aV A s H) (hP : va_P D vwCl w H) {As : List Value} : PreS s H (RPE D cI cB aS aV A w As) As :=
  ⟨RPE.blind, fun U hU hW => ⟨⟨rfl, by rw [hU]; exact hP, hK.warm hW⟩, by rw [hU]; exact hE.moved hW.alike⟩⟩
theorem RPE.preV {D : va_G} {cI cB : ClassId} {aS aV : Nat} {A : Nat → Prop} {w : va_W} {s : State} {H : Heap} (hK : KP D cI cB aS s) (hE : ES aS aV A s H) (hP : va_P D vwCl w H) {b q0 ci N : Nat} {C : String} {T : u_T} {fs : List Value} (he : w[q0]? = some (b, .inr (ci, fs))) (hc : vwCl[ci]? = some (C, T, N)) {As : List Value} : PreV s H C b (RPE D cI cB aS aV A w (.ref b :: As)) As :=
  ⟨RPE.blind, va_recv hK.1 hP hc he, fun U hU hW => ⟨⟨rfl, by rw [hU]; exact hP, hK.warm hW⟩, by rw [hU]; exact hE.moved hW.alike⟩⟩
theorem RPE.preX {D : va_G} {cI cB : ClassId} {aS aV : Nat} {A : Nat → Prop} {w : va_W} {s : State} {H : Heap} (hK : KP D cI cB aS s) (hE : ES aS aV A s H) (hP : va_P D vwCl w H) {As : List Value} : PreV s H RJ0 aS (RPE D cI cB aS aV A w (.ref aS :: As)) As :=
  ⟨RPE.blind, (by obtain ⟨cell, h1, h2, h3, -⟩ := (hE.1.1 0 (by decide)).1; exact ⟨cell, h1, h2, h3⟩), fun U hU hW => ⟨⟨rfl, by rw [hU]; exact hP, hK.warm hW⟩, by rw [hU]; exact hE.moved hW.alike⟩⟩
theorem met_ofE {l : Launch} {y : MethodName} {bts : ByteArray} {n : Nat} {ret : Option FieldType} {rm : Room} {D : va_G} {cI cB : ClassId} {aS aV : Nat} {A : Nat → Prop} {w : va_W} {av : List Value} {Qc : Array Value → State → Outcome → State → Prop} {mc ms : Nat} {free : Addr → Prop} (hpl : plainName y.cls = true) (hlen : (lg_sl av).length ≤ n)
    (body : ∀ (p : Program) (e : Env) (s : State) (m : MethodId) (below : List Frame) (meth : Method) (c : Code) (ls : Array Slot), p.tables.exec = Jvm.exec → c.code = bts → meth.sig.returnType = ret → c.maxLocals = n → s.vm.findClass y.cls = some m.cls → (∀ w ∈ gG, w.before av.toArray s = true) → meth.locks = false → (y.name = "<init>" → meth.name = "<init>") → KP D cI cB aS s → ES aS aV A s s.heap → va_P D vwCl w s.heap → lv_has ls n (lv_args 0 av) → W p l e rm s m av.toArray below meth c s.heap [] 0 0 (MQ below Qc av.toArray s mc ms free) (F0 m 0 ls [])) :
    Met l y (mw y bts n ret) rm (RPE D cI cB aS aV A w av) Qc mc ms free := by
  refine Met.ofW (cc := bts) (maxL := n) (ret := ret) hpl rfl ?_
  intro p e s m args below meth c s₁ B hml hv
  obtain ⟨⟨rfl, hP, hK⟩, hE⟩ := hv
  have hts := atoms_spec (ws := mw y bts n ret) B.pre
  have hl := lv_entry av (n := n) hlen
  rw [lg_entry_eq]
  exact body p e s m below meth c _ B.exec B.bytes B.returns hml (findClass_of_methodNamed B.named) (fun w hw => hts w (List.mem_cons_of_mem _ hw)) B.notSynchronized (fun h => by rw [← h]; exact (name_of_methodNamed B.named B.method).1) hK hE hP hl
section SENDS
variable {p : Program} {l : Launch} {e : Env} {R : Room} {s : State} {m : MethodId} {args : Array Value} {below : List Frame} {meth : Method} {c : Code} {cc : ByteArray} {pc : Nat} {ls : Array Slot}
theorem rr_v (hx : p.tables.exec = Jvm.exec) (hb : c.code = cc) (hr : meth.sig.returnType = none) (hlocks : meth.locks = false) (hdg : decode cc pc = .ok (.return_, 1)) : W p l e R s m args below meth c s.heap [] 0 0 (MQ below (va_Sv (fun _ => True)) args s 0 0 (fun _ => False)) (F0 m pc ls []) :=
  W.vret hx hb hr (fun _ ht _ => ⟨rfl, trivial, ht⟩) (fun _ h => by cases h) hdg
end SENDS
section SCALL
variable {p : Program} {l : Launch} {e : Env} {R : Room} {s : State} {m : MethodId} {args : Array Value} {below : List Frame} {meth : Method} {c : Code} {H : Heap} {locs : List Loc} {cells slots : Nat} {Q : State → Prop}
variable {cc : ByteArray} {pc : Nat} {ls : Array Slot} {rest st : List Value} {nL idx n k : Nat} {own C : String} {y : MethodName} {bts : ByteArray} {ret : Option FieldType} {rm : Room} {Pc : Array Value → State → Prop} {b : Addr} {As : List Value}
theorem rdSv (hx : p.tables.exec = Jvm.exec) (hb : c.code = cc) (hml : c.maxLocals = nL) (hown : s.vm.findClass own = some m.cls) (hg : ∀ w ∈ gG, w.before args s = true) (hM : Met l y (mw y bts n ret) rm Pc (va_Sv (fun _ => True)) 0 0 (fun _ => False)) (hl : Cond.methodLink own idx y ∈ gG) (hy : sfacts C y bts n ret k) (hR : rm.frames + 1 ≤ R.frames ∧ 8 + (n + 11) + rm.locals ≤ R.locals) (hz : rm.cells = 0 ∧ rm.slots = 0) (hc : cells ≤ R.cells ∧ slots ≤ R.slots) (hp : PreS s H Pc As) (hn : As.length = k) (hsz : ls.size = nL) (hst : st = As.reverse ++ rest) (hroom : (rest.map fun v => v.category).sum ≤ 8) (hdg : decode cc pc = .ok (.invokestatic idx, 3))
    (kk : W p l e R s m args below meth c H locs cells slots Q (F0 m (pc + 3) ls rest)) : W p l e R s m args below meth c H locs cells slots Q (F0 m pc ls st) :=
  va_csv (W.runS (As := As) (rest := rest) ⟨hx, hb, hml, hown, hg⟩ hM (cwS_of hg hl hy hz.1 hz.2 hR) hp rfl hn hsz hst (lv_room hroom) hdg hc) (fun _ => kk)
end SCALL
def scN (k : Nat) : Nat := ([104, 116, 109, 99, 98] : List Nat).getD k 0
theorem sc_at : ∀ k, k < 5 → Value.int ((([[104, 116, 109, 99, 98]] : List (List Int32)).getD 0 []).getD k 0) = Value.int (nI (scN k)) := by decide +kernel
theorem sc_and : ∀ k, k < 5 → nI (scN k) &&& nI 255 = nI (scN k) := by decide +kernel
theorem sc_chr : ∀ k, k < 5 → ((nI (scN k)).toUInt32 % 65536).toInt32 = nI (scN k) := by decide +kernel
theorem sc_nr5 : ∀ k, k < 5 → narrow .char (.int (nI (scN k))) = .int (nI (scN k)) := by
  have key : ∀ k, k < 5 → ((nI (scN k)).toUInt32 % 65536).toInt32 = nI (scN k) := sc_chr
  intro k hk
  rcases (show k = 0 ∨ k = 1 ∨ k = 2 ∨ k = 3 ∨ k = 4 by omega) with rfl | rfl | rfl | rfl | rfl <;> rfl
theorem scN_lt : ∀ k, k < 5 → scN k < 127 := by decide
theorem kind_at : ∀ k, k < 5 → kindF (scN k) = nI k := by decide +kernel
theorem kind_no {x : Nat} (h : ∀ k, k < 5 → ¬ scN k = x) : kindF x = -1 := by
  unfold kindF
  rw [if_neg (fun q => h 0 (by decide) q.symm), if_neg (fun q => h 1 (by decide) q.symm), if_neg (fun q => h 2 (by decide) q.symm), if_neg (fun q => h 3 (by decide) q.symm), if_neg (fun q => h 4 (by decide) q.symm)]
theorem gdX_0 {k c : Nat} (h : k < 17) (h0 : k % 3 = 0) : gdX k c = true ↔ ¬ kindF c = -1 := by
  unfold gdX
  rw [decide_eq_true h, if_pos h0, Bool.true_and]
  simp
theorem gdX_1 {k c : Nat} (h : k < 17) (h1 : k % 3 = 1) : gdX k c = true ↔ (48 ≤ c ∧ c ≤ 57) := by
  unfold gdX
  rw [decide_eq_true h, if_neg (by omega), if_pos h1, Bool.true_and]
  exact decide_eq_true_iff
theorem gdX_2 {k c : Nat} (h : k < 17) (h0 : ¬ k % 3 = 0) (h1 : ¬ k % 3 = 1) : gdX k c = true ↔ c = 44 := by
  unfold gdX
  rw [decide_eq_true h, if_neg h0, if_neg h1, Bool.true_and]
  exact decide_eq_true_iff
theorem gdX_n {k c : Nat} (h : ¬ k < 17) : ¬ gdX k c = true := by
  unfold gdX
  rw [decide_eq_false h, Bool.false_and]
  decide
