/-! ===== the words of every method: its own code, and gG ===== -/
abbrev mw (y : MethodName) (b : ByteArray) (n : Nat) (r : Option FieldType) : List Cond := Cond.code y b n r :: gG
theorem gG_good {ws : List Cond} (h : ∀ w ∈ ws, w ∈ gG) : GoodIn gG ws := fun w hw => ⟨h w hw, good_of_word (gG_ok w (h w hw))⟩
/-- what the tables say of a method of an object -/
def vfacts (C : String) (y : MethodName) (b : ByteArray) (n : Nat) (r : Option FieldType) (k : Nat) : Prop :=
  (y.cls = C ∧ y.cls ≠ "java/lang/invoke/MethodHandle" ∧ y.cls ≠ "java/lang/invoke/VarHandle" ∧ (parseMethodDescriptor y.desc).map (fun d => d.parameters.length) = some k) ∧ Cond.instanceMethod y ∈ gG ∧ Cond.selects C y y ∈ gG ∧ Cond.initialized C ∈ gG ∧ Cond.code y b n r ∈ gG
/-- what the tables say of a static method -/
def sfacts (C : String) (y : MethodName) (b : ByteArray) (n : Nat) (r : Option FieldType) (k : Nat) : Prop :=
  (y.cls = C ∧ y.cls ≠ "java/lang/invoke/MethodHandle" ∧ y.cls ≠ "java/lang/invoke/VarHandle" ∧ (parseMethodDescriptor y.desc).map (fun d => d.parameters.length) = some k) ∧ Cond.static y ∈ gG ∧ Cond.initialized C ∈ gG ∧ Cond.code y b n r ∈ gG
/-- what the tables say of a constructor -/
def ifacts (C : String) (y : MethodName) (b : ByteArray) (n : Nat) (k : Nat) : Prop :=
  (y.cls = C ∧ y.cls ≠ "java/lang/invoke/MethodHandle" ∧ y.cls ≠ "java/lang/invoke/VarHandle" ∧ (parseMethodDescriptor y.desc).map (fun d => d.parameters.length) = some k) ∧ y.name = "<init>" ∧ Cond.instanceMethod y ∈ gG ∧ Cond.initialized C ∈ gG ∧ Cond.code y b n none ∈ gG
section CW
variable {R : Room} {s : State} {args : Array Value} {own C : String} {idx : Nat} {y : MethodName} {b : ByteArray} {n k : Nat} {r : Option FieldType} {rm : Room} {mc ms : Nat}
theorem cwV_of (hg : ∀ w ∈ gG, w.before args s = true) (hl : Cond.methodLink own idx y ∈ gG) (hy : vfacts C y b n r k) (hrc : rm.cells = mc) (hrs : rm.slots = ms) (hR : rm.frames + 1 ≤ R.frames ∧ 8 + (n + 11) + rm.locals ≤ R.locals) : CallW R s args own C idx y b n r (mw y b n r) rm mc ms k :=
  cwV k hg (gG_good (fun w hw => by
    rcases List.mem_append.mp hw with h | h
    · simp only [List.mem_cons, List.not_mem_nil, or_false] at h
      rcases h with rfl | rfl | rfl | rfl
      · exact hl
      · exact hy.2.1
      · exact hy.2.2.1
      · exact hy.2.2.2.1
    · rcases List.mem_cons.mp h with rfl | h
      · exact hy.2.2.2.2
      · exact h)) rfl hrc hrs hy.1 hR
theorem cwS_of (hg : ∀ w ∈ gG, w.before args s = true) (hl : Cond.methodLink own idx y ∈ gG) (hy : sfacts C y b n r k) (hrc : rm.cells = mc) (hrs : rm.slots = ms) (hR : rm.frames + 1 ≤ R.frames ∧ 8 + (n + 11) + rm.locals ≤ R.locals) : CallB R s args own idx y b n r (mw y b n r) rm mc ms k ∧ (Cond.static y).before args s = true :=
  ⟨callB_of k hg (gG_good (fun w hw => by
    rcases List.mem_cons.mp hw with rfl | h
    · exact hy.2.2.2
    · exact h)) rfl hrc hrs (by rw [hy.1.1]; exact hg _ hy.2.2.1) (hg _ hl) hy.1.2 hR, hg _ hy.2.1⟩
theorem cwI_of (hg : ∀ w ∈ gG, w.before args s = true) (hl : Cond.methodLink own idx y ∈ gG) (hy : ifacts C y b n k) (hrc : rm.cells = mc) (hrs : rm.slots = ms) (hR : rm.frames + 1 ≤ R.frames ∧ 8 + (n + 11) + rm.locals ≤ R.locals) : CallB R s args own idx y b n none (mw y b n none) rm mc ms k ∧ y.name = "<init>" ∧ (Cond.instanceMethod y).before args s = true :=
  cwI k hg (gG_good (fun w hw => by
    rcases List.mem_cons.mp hw with rfl | h
    · exact hy.2.2.2.2
    · exact h)) rfl hrc hrs (by rw [hy.1.1]; exact hg _ hy.2.2.2.1) (hg _ hl) (hg _ hy.2.2.1) hy.2.1 hy.1.2 hR
end CW
/-! ===== what a state knows of the classes, the nest's links and the string ===== -/
def nestF : List (String × Nat × String × String × String × String) := [(RX2, 112, "BirthStreet$Moment", "today", "I", RX2), (RX2, 103, "BirthStreet$Moment", "births", "I", RX2), (RX2, 139, "BirthStreet$Moment", "debts", "I", RX2), (RX2, 162, "BirthStreet$Moment", "heard", "I", RX2), (RX2, 76, "BirthStreet$Moment", "ages", "LBirthStreet$Row;", RX2), (RX2, 115, "BirthStreet$Moment", "pastAges", "LBirthStreet$Row;", RX2), (RX2, 86, "BirthStreet$Moment", "birthsIn", "LBirthStreet$Row;", RX2), (RX2, 142, "BirthStreet$Moment", "debtAmounts", "LBirthStreet$Row;", RX2), (RX2, 145, "BirthStreet$Moment", "debtNumbers", "LBirthStreet$Row;", RX2)]
/-- D: the classes' numbers and slots; cI, cB: the classes of int[], long[]; aS: the string's address -/
def KP (D : va_G) (cI cB : ClassId) (aS : Nat) (U : State) : Prop :=
  va_K D vwCl [(cI, .int), (cB, .long)] U ∧ (∀ q ∈ nestF, va_Nw (.fieldLinkNest q.1 q.2.1 q.2.2.1 q.2.2.2.1 q.2.2.2.2.1 q.2.2.2.2.2) U) ∧ va_Nw (.methodLinkNest RX2 33 yX0_init RX2) U ∧ vk_R RX2 233 "htmcb" aS U
theorem KP.warm {D : va_G} {cI cB : ClassId} {aS : Nat} {s U : State} (hW : s.WarmedH U.vm) (h : KP D cI cB aS s) : KP D cI cB aS U :=
  ⟨va_K.moved hW.alike h.1, fun q hq => va_Nw.warmF hW (h.2.1 q hq), va_Nw.warmM hW h.2.2.1, vk_R.warm hW h.2.2.2⟩
theorem KP.calling {D : va_G} {cI cB : ClassId} {aS : Nat} {U : State} (g : JFrame) (mk : MethodId) (a : Array Value) (h : KP D cI cB aS U) : KP D cI cB aS (U.calling g mk a) :=
  ⟨va_K.moved (u := U) (U := U.calling g mk a) (Vm.Alike.refl U.vm) h.1, fun q hq => va_Nw.same rfl (u := U) (U := U.calling g mk a) rfl (h.2.1 q hq), va_Nw.same rfl (u := U) (U := U.calling g mk a) rfl h.2.2.1, vk_R.same (u := U) (U := U.calling g mk a) rfl h.2.2.2⟩
/-- a method's start: its arguments, the cells of a world, what the state knows -/
def RP (D : va_G) (cI cB : ClassId) (aS : Nat) (w : va_W) (av : List Value) : Array Value → State → Prop := fun v U => v = av.toArray ∧ va_P D vwCl w U.heap ∧ KP D cI cB aS U
theorem RP.blind {D : va_G} {cI cB : ClassId} {aS : Nat} {w : va_W} {av : List Value} : FrameBlind (RP D cI cB aS w av) := fun a _ g mk q => ⟨q.1, q.2.1, q.2.2.calling g mk a⟩
theorem RP.preS {D : va_G} {cI cB : ClassId} {aS : Nat} {w : va_W} {s : State} {H : Heap} (hK : KP D cI cB aS s) (hP : va_P D vwCl w H) {As : List Value} : PreS s H (RP D cI cB aS w As) As :=
  ⟨RP.blind, fun U hU hW => ⟨rfl, by rw [hU]; exact hP, hK.warm hW⟩⟩
theorem RP.preV {D : va_G} {cI cB : ClassId} {aS : Nat} {w : va_W} {s : State} {H : Heap} (hK : KP D cI cB aS s) (hP : va_P D vwCl w H) {b q0 ci N : Nat} {C : String} {T : u_T} {fs : List Value} (he : w[q0]? = some (b, .inr (ci, fs))) (hc : vwCl[ci]? = some (C, T, N)) {As : List Value} : PreV s H C b (RP D cI cB aS w (.ref b :: As)) As :=
  ⟨RP.blind, va_recv hK.1 hP hc he, fun U hU hW => ⟨rfl, by rw [hU]; exact hP, hK.warm hW⟩⟩
theorem met_of {l : Launch} {y : MethodName} {bts : ByteArray} {n : Nat} {ret : Option FieldType} {rm : Room} {D : va_G} {cI cB : ClassId} {aS : Nat} {w : va_W} {av : List Value} {Qc : Array Value → State → Outcome → State → Prop} {mc ms : Nat} {free : Addr → Prop} (hpl : plainName y.cls = true) (hlen : (lg_sl av).length ≤ n)
    (body : ∀ (p : Program) (e : Env) (s : State) (m : MethodId) (below : List Frame) (meth : Method) (c : Code) (ls : Array Slot), p.tables.exec = Jvm.exec → c.code = bts → meth.sig.returnType = ret → c.maxLocals = n → s.vm.findClass y.cls = some m.cls → (∀ w ∈ gG, w.before av.toArray s = true) → meth.locks = false → (y.name = "<init>" → meth.name = "<init>") → KP D cI cB aS s → va_P D vwCl w s.heap → lv_has ls n (lv_args 0 av) → W p l e rm s m av.toArray below meth c s.heap [] 0 0 (MQ below Qc av.toArray s mc ms free) (F0 m 0 ls [])) :
    Met l y (mw y bts n ret) rm (RP D cI cB aS w av) Qc mc ms free := by
  refine Met.ofW (cc := bts) (maxL := n) (ret := ret) hpl rfl ?_
  intro p e s m args below meth c s₁ B hml hv
  obtain ⟨rfl, hP, hK⟩ := hv
  have hts := atoms_spec (ws := mw y bts n ret) B.pre
  have hl := lv_entry av (n := n) hlen
  rw [lg_entry_eq]
  exact body p e s m below meth c _ B.exec B.bytes B.returns hml (findClass_of_methodNamed B.named) (fun w hw => hts w (List.mem_cons_of_mem _ hw)) B.notSynchronized (fun h => by rw [← h]; exact (name_of_methodNamed B.named B.method).1) hK hP hl
/-! ===== the ends of a reader ===== -/
def bi (P : Prop) [Decidable P] : Int32 := if P then 1 else 0
theorem bi_t {P : Prop} {_ : Decidable P} (h : P) : bi P = 1 := if_pos h
theorem bi_f {P : Prop} {_ : Decidable P} (h : ¬ P) : bi P = 0 := if_neg h
theorem bi_0 {P : Prop} {_ : Decidable P} : bi P = 0 ↔ ¬ P := by
  unfold bi
  by_cases h : P
  · rw [if_pos h]; exact ⟨fun q => absurd q (by decide), fun q => absurd h q⟩
  · rw [if_neg h]; exact ⟨fun _ => h, fun _ => rfl⟩
theorem bi_c {P Q : Prop} {_ : Decidable P} {_ : Decidable Q} (h : P ↔ Q) : bi P = bi Q := by
  by_cases hp : P
  · rw [bi_t hp, bi_t (h.mp hp)]
  · rw [bi_f hp, bi_f (fun q => hp (h.mpr q))]
theorem bi_nar {P : Prop} {_ : Decidable P} : narrow .boolean (.int (bi P)) = .int (bi P) := by
  unfold bi
  split <;> rfl
section ENDS
variable {p : Program} {l : Launch} {e : Env} {R : Room} {s : State} {m : MethodId} {args : Array Value} {below : List Frame} {meth : Method} {c : Code} {cc : ByteArray} {pc : Nat} {ls : Array Slot}
theorem rr_i (hx : p.tables.exec = Jvm.exec) (hb : c.code = cc) (hr : meth.sig.returnType = some .int) (hlocks : meth.locks = false) {v E : Int32} (hdg : decode cc pc = .ok (.ireturn, 1)) (hv : v = E) : W p l e R s m args below meth c s.heap [] 0 0 (MQ below (vp_Si (fun r => r = E)) args s 0 0 (fun _ => False)) (F0 m pc ls [.int v]) :=
  W.iret hx hb hr (fun _ ht _ => ⟨_, rfl, hv, ht⟩) (fun _ h => by cases h) hdg
theorem rr_z (hx : p.tables.exec = Jvm.exec) (hb : c.code = cc) {ty : FieldType} (hr : meth.sig.returnType = some ty) (hlocks : meth.locks = false) {v E : Int32} (hdg : decode cc pc = .ok (.ireturn, 1)) (hn : narrow ty (.int E) = .int E) (hv : v = E) : W p l e R s m args below meth c s.heap [] 0 0 (MQ below (vp_Si (fun r => r = E)) args s 0 0 (fun _ => False)) (F0 m pc ls [.int v]) := by
  subst hv
  exact W.zret hx hb hr hn (fun _ ht _ => ⟨_, rfl, rfl, ht⟩) (fun _ h => by cases h) hdg
theorem rr_l (hx : p.tables.exec = Jvm.exec) (hb : c.code = cc) (hr : meth.sig.returnType = some .long) (hlocks : meth.locks = false) {v E : Int64} (hdg : decode cc pc = .ok (.lreturn, 1)) (hv : v = E) : W p l e R s m args below meth c s.heap [] 0 0 (MQ below (vp_Sl (fun r => r = E)) args s 0 0 (fun _ => False)) (F0 m pc ls [.long v]) :=
  W.lret hx hb hr (fun _ ht _ => ⟨_, rfl, hv, ht⟩) (fun _ h => by cases h) hdg
end ENDS
/-! ===== calls of readers ===== -/
section RCALL
variable {p : Program} {l : Launch} {e : Env} {R : Room} {s : State} {m : MethodId} {args : Array Value} {below : List Frame} {meth : Method} {c : Code} {H : Heap} {locs : List Loc} {cells slots : Nat} {Q : State → Prop}
variable {cc : ByteArray} {pc : Nat} {ls : Array Slot} {rest st : List Value} {nL idx n k : Nat} {own C : String} {y : MethodName} {bts : ByteArray} {ret : Option FieldType} {rm : Room} {Pc : Array Value → State → Prop} {b : Addr} {As : List Value}
theorem rdV {E : Int32} (hx : p.tables.exec = Jvm.exec) (hb : c.code = cc) (hml : c.maxLocals = nL) (hown : s.vm.findClass own = some m.cls) (hg : ∀ w ∈ gG, w.before args s = true) (hM : Met l y (mw y bts n ret) rm Pc (vp_Si (fun r => r = E)) 0 0 (fun _ => False)) (hl : Cond.methodLink own idx y ∈ gG) (hy : vfacts C y bts n ret k) (hR : rm.frames + 1 ≤ R.frames ∧ 8 + (n + 11) + rm.locals ≤ R.locals) (hz : rm.cells = 0 ∧ rm.slots = 0) (hc : cells ≤ R.cells ∧ slots ≤ R.slots) (hp : PreV s H C b Pc As) (hn : As.length = k) (hsz : ls.size = nL) (hst : st = As.reverse ++ .ref b :: rest) (hroom : (rest.map fun v => v.category).sum ≤ 8) (hdg : decode cc pc = .ok (.invokevirtual idx, 3))
    (kk : W p l e R s m args below meth c H locs cells slots Q (F0 m (pc + 3) ls (.int E :: rest))) : W p l e R s m args below meth c H locs cells slots Q (F0 m pc ls st) :=
  vp_callSi (W.runV (As := As) (rest := rest) ⟨hx, hb, hml, hown, hg⟩ hM (cwV_of hg hl hy hz.1 hz.2 hR) hp rfl hn hsz hst (lv_room hroom) hdg hc) (fun r hr => by rw [hr]; exact kk)
theorem rdVl {E : Int64} (hx : p.tables.exec = Jvm.exec) (hb : c.code = cc) (hml : c.maxLocals = nL) (hown : s.vm.findClass own = some m.cls) (hg : ∀ w ∈ gG, w.before args s = true) (hM : Met l y (mw y bts n ret) rm Pc (vp_Sl (fun r => r = E)) 0 0 (fun _ => False)) (hl : Cond.methodLink own idx y ∈ gG) (hy : vfacts C y bts n ret k) (hR : rm.frames + 1 ≤ R.frames ∧ 8 + (n + 11) + rm.locals ≤ R.locals) (hz : rm.cells = 0 ∧ rm.slots = 0) (hc : cells ≤ R.cells ∧ slots ≤ R.slots) (hp : PreV s H C b Pc As) (hn : As.length = k) (hsz : ls.size = nL) (hst : st = As.reverse ++ .ref b :: rest) (hroom : (rest.map fun v => v.category).sum ≤ 8) (hdg : decode cc pc = .ok (.invokevirtual idx, 3))
    (kk : W p l e R s m args below meth c H locs cells slots Q (F0 m (pc + 3) ls (.long E :: rest))) : W p l e R s m args below meth c H locs cells slots Q (F0 m pc ls st) :=
  vp_callSl (W.runV (As := As) (rest := rest) ⟨hx, hb, hml, hown, hg⟩ hM (cwV_of hg hl hy hz.1 hz.2 hR) hp rfl hn hsz hst (lv_room hroom) hdg hc) (fun r hr => by rw [hr]; exact kk)
theorem rdS {E : Int32} (hx : p.tables.exec = Jvm.exec) (hb : c.code = cc) (hml : c.maxLocals = nL) (hown : s.vm.findClass own = some m.cls) (hg : ∀ w ∈ gG, w.before args s = true) (hM : Met l y (mw y bts n ret) rm Pc (vp_Si (fun r => r = E)) 0 0 (fun _ => False)) (hl : Cond.methodLink own idx y ∈ gG) (hy : sfacts C y bts n ret k) (hR : rm.frames + 1 ≤ R.frames ∧ 8 + (n + 11) + rm.locals ≤ R.locals) (hz : rm.cells = 0 ∧ rm.slots = 0) (hc : cells ≤ R.cells ∧ slots ≤ R.slots) (hp : PreS s H Pc As) (hn : As.length = k) (hsz : ls.size = nL) (hst : st = As.reverse ++ rest) (hroom : (rest.map fun v => v.category).sum ≤ 8) (hdg : decode cc pc = .ok (.invokestatic idx, 3))
    (kk : W p l e R s m args below meth c H locs cells slots Q (F0 m (pc + 3) ls (.int E :: rest))) : W p l e R s m args below meth c H locs cells slots Q (F0 m pc ls st) :=
  vp_callSi (W.runS (As := As) (rest := rest) ⟨hx, hb, hml, hown, hg⟩ hM (cwS_of hg hl hy hz.1 hz.2 hR) hp rfl hn hsz hst (lv_room hroom) hdg hc) (fun r hr => by rw [hr]; exact kk)
theorem rdSl {E : Int64} (hx : p.tables.exec = Jvm.exec) (hb : c.code = cc) (hml : c.maxLocals = nL) (hown : s.vm.findClass own = some m.cls) (hg : ∀ w ∈ gG, w.before args s = true) (hM : Met l y (mw y bts n ret) rm Pc (vp_Sl (fun r => r = E)) 0 0 (fun _ => False)) (hl : Cond.methodLink own idx y ∈ gG) (hy : sfacts C y bts n ret k) (hR : rm.frames + 1 ≤ R.frames ∧ 8 + (n + 11) + rm.locals ≤ R.locals) (hz : rm.cells = 0 ∧ rm.slots = 0) (hc : cells ≤ R.cells ∧ slots ≤ R.slots) (hp : PreS s H Pc As) (hn : As.length = k) (hsz : ls.size = nL) (hst : st = As.reverse ++ rest) (hroom : (rest.map fun v => v.category).sum ≤ 8) (hdg : decode cc pc = .ok (.invokestatic idx, 3))
    (kk : W p l e R s m args below meth c H locs cells slots Q (F0 m (pc + 3) ls (.long E :: rest))) : W p l e R s m args below meth c H locs cells slots Q (F0 m pc ls st) :=
  vp_callSl (W.runS (As := As) (rest := rest) ⟨hx, hb, hml, hown, hg⟩ hM (cwS_of hg hl hy hz.1 hz.2 hR) hp rfl hn hsz hst (lv_room hroom) hdg hc) (fun r hr => by rw [hr]; exact kk)
end RCALL
/-! ===== writers: the cells of a world may change, no cell comes ===== -/
/-- the cells of a world -/
def inW (w : va_W) : Nat → Prop := fun q => ∃ (k : Nat) (x : va_E), w[k]? = some (q, x)
def wq {α S : Type} (mk : α → Option Value) (w : va_W) (w1 : S → va_W) (D : va_G) (post : α → S → Prop) : Array Value → State → Outcome → State → Prop := fun _ st o t => (∃ (r : α) (u : S), o = .returned (mk r) ∧ post r u ∧ va_P D vwCl (w1 u) t.heap) ∧ va_F (inW w) st t
abbrev mkI : Int32 → Option Value := fun r => some (.int r)
abbrev mkL : Int64 → Option Value := fun r => some (.long r)
abbrev mkV : Unit → Option Value := fun _ => none
theorem va_D.here {w : va_W} {A : Nat → Prop} (h : va_D A w) : va_D (inW w) w := ⟨h.1, fun k q hq => ⟨k, q.2, hq⟩⟩
/-- the same addresses -/
theorem va_D.addr {A : Nat → Prop} {w w1 : va_W} (h : va_D A w) (e : w1.map (fun q => q.1) = w.map (fun q => q.1)) : va_D A w1 := by
  have key : ∀ (k : Nat) (q : Nat × va_E), w1[k]? = some q → ∃ q0, w[k]? = some q0 ∧ q0.1 = q.1 := by
    intro k q hk
    have h1 : (w1.map (fun q => q.1))[k]? = some q.1 := by rw [List.getElem?_map, hk]; rfl
    rw [e, List.getElem?_map] at h1
    cases h0 : w[k]? with
    | none => rw [h0] at h1; cases h1
    | some q0 => rw [h0] at h1; exact ⟨q0, rfl, Option.some.inj h1⟩
  refine ⟨fun i j x y hi hj hxy => ?_, fun k q hk => ?_⟩
  · obtain ⟨x0, a1, a2⟩ := key i x hi
    obtain ⟨y0, b1, b2⟩ := key j y hj
    exact h.1 i j x0 y0 a1 b1 (by rw [a2, b2]; exact hxy)
  · obtain ⟨q0, a1, a2⟩ := key k q hk
    rw [← a2]
    exact h.2 k q0 a1
theorem inW.addr {w w1 : va_W} (e : w1.map (fun q => q.1) = w.map (fun q => q.1)) {q : Nat} (h : inW w1 q) : inW w q := by
  obtain ⟨k, x, hk⟩ := h
  have h1 : (w1.map (fun q => q.1))[k]? = some q := by rw [List.getElem?_map, hk]; rfl
  rw [e, List.getElem?_map] at h1
  cases h0 : w[k]? with
  | none => rw [h0] at h1; cases h1
  | some q0 =>
    rw [h0] at h1
    have h2 : q0.1 = q := Option.some.inj h1
    exact ⟨k, q0.2, by rw [h0, ← h2]⟩
/-- some cells set, at places -/
def wsets (ws : va_W) : List Nat → va_W → va_W
  | i :: is, x :: xs => wsets (ws.set i x) is xs
  | _, _ => ws
theorem wsets_get : ∀ (is : List Nat) (xs ws : va_W) (k : Nat) (q : Nat × va_E), (wsets ws is xs)[k]? = some q → (∃ j : Nat, is[j]? = some k ∧ xs[j]? = some q) ∨ (ws[k]? = some q ∧ ∀ j : Nat, j < xs.length → is[j]? ≠ some k) ∨ (ws[k]? = some q ∧ ∃ j : Nat, is[j]? = none ∧ j < xs.length)
  | [], [], ws, k, q, h => Or.inr (Or.inl ⟨h, fun j hj => by simp at hj⟩)
  | [], x :: xs, ws, k, q, h => Or.inr (Or.inr ⟨h, 0, rfl, by simp⟩)
  | i :: is, [], ws, k, q, h => Or.inr (Or.inl ⟨h, fun j hj => by simp at hj⟩)
  | i :: is, x :: xs, ws, k, q, h => by
    rcases wsets_get is xs (ws.set i x) k q h with ⟨j, h1, h2⟩ | ⟨h1, h2⟩ | ⟨h1, j, h2, h3⟩
    · exact Or.inl ⟨j + 1, by simpa using h1, by simpa using h2⟩
    · rw [List.getElem?_set] at h1
      by_cases hik : i = k
      · rw [if_pos hik] at h1
        split at h1
        · cases h1
          exact Or.inl ⟨0, by simp [hik], by simp⟩
        · cases h1
      · rw [if_neg hik] at h1
        refine Or.inr (Or.inl ⟨h1, fun j hj => ?_⟩)
        cases j with
        | zero => simpa using hik
        | succ j => simpa using h2 j (by simpa using hj)
    · rw [List.getElem?_set] at h1
      by_cases hik : i = k
      · rw [if_pos hik] at h1
        split at h1
        · cases h1
          exact Or.inl ⟨0, by simp [hik], by simp⟩
        · cases h1
      · rw [if_neg hik] at h1
        exact Or.inr (Or.inr ⟨h1, j + 1, by simpa using h2, by simpa using h3⟩)
/-- behind a call of a writer on some of the world's cells -/
theorem wjoin {A0 : Nat → Prop} {D : va_G} {ws wc w1 : va_W} {H H1 : Heap} (hP : va_P D vwCl ws H) (hD : va_D A0 ws) (is : List Nat) (hC : is.map (fun i => ws[i]?) = wc.map some) (he : w1.map (fun q => q.1) = wc.map (fun q => q.1)) (hP1 : va_P D vwCl w1 H1) (hk : ∀ q : Nat, q < H.size → ¬ inW wc q → H1[q]? = H[q]?) : va_P D vwCl (wsets ws is w1) H1 := by
  have hlen : is.length = w1.length := by
    have h1 := congrArg List.length hC
    have h2 := congrArg List.length he
    simp only [List.length_map] at h1 h2
    omega
  intro k q hq
  rcases wsets_get is w1 ws k q hq with ⟨j, h1, h2⟩ | ⟨h1, h2⟩ | ⟨h1, j, h2, h3⟩
  · exact hP1 j q h2
  · refine (hP k q h1).kept (hk q.1 (hP k q h1).lt (fun hin => ?_))
    obtain ⟨j, x, hj⟩ := hin
    have h3 : (is.map (fun i => ws[i]?))[j]? = some (some (q.1, x)) := by rw [hC, List.getElem?_map, hj]; rfl
    rw [List.getElem?_map] at h3
    cases hi : is[j]? with
    | none => rw [hi] at h3; cases h3
    | some i =>
      rw [hi] at h3
      have h4 : ws[i]? = some (q.1, x) := Option.some.inj h3
      have h5 := hD.1 i k (q.1, x) q h4 h1 rfl
      refine h2 j ?_ (by rw [hi, h5])
      rw [← hlen]
      exact (List.getElem?_eq_some_iff.mp hi).1
  · rw [← hlen] at h3
    rw [List.getElem?_eq_getElem h3] at h2
    cases h2
theorem inW_sub {A0 : Nat → Prop} {ws wc : va_W} (hD : va_D A0 ws) (is : List Nat) (hC : is.map (fun i => ws[i]?) = wc.map some) : ∀ q : Nat, inW wc q → A0 q := by
  intro q h
  obtain ⟨j, x, hj⟩ := h
  have h3 : (is.map (fun i => ws[i]?))[j]? = some (some (q, x)) := by rw [hC, List.getElem?_map, hj]; rfl
  rw [List.getElem?_map] at h3
  cases hi : is[j]? with
  | none => rw [hi] at h3; cases h3
  | some i =>
    rw [hi] at h3
    exact hD.2 i (q, x) (Option.some.inj h3)
theorem inW_all {A0 : Nat → Prop} {ws : va_W} (hD : va_D A0 ws) : ∀ q : Nat, inW ws q → A0 q := fun q h => by
  obtain ⟨j, x, hj⟩ := h
  exact hD.2 j (q, x) hj
section WCALL
variable {p : Program} {l : Launch} {e : Env} {R : Room} {s : State} {m : MethodId} {args : Array Value} {below : List Frame} {meth : Method} {c : Code} {H : Heap} {locs : List Loc} {cells slots : Nat} {Q : State → Prop}
variable {cc : ByteArray} {pc : Nat} {ls : Array Slot} {rest st : List Value} {nL idx n k : Nat} {own C : String} {y : MethodName} {bts : ByteArray} {ret : Option FieldType} {rm : Room} {Pc : Array Value → State → Prop} {b : Addr} {As : List Value} {A0 : Nat → Prop} {H0 : Heap} {D : va_G} {w : va_W}
theorem wrV {α S : Type} {mk : α → Option Value} {w1 : S → va_W} {post : α → S → Prop} (hx : p.tables.exec = Jvm.exec) (hb : c.code = cc) (hml : c.maxLocals = nL) (hown : s.vm.findClass own = some m.cls) (hg : ∀ w ∈ gG, w.before args s = true) (hM : Met l y (mw y bts n ret) rm Pc (wq mk w w1 D post) 0 0 (inW w)) (hl : Cond.methodLink own idx y ∈ gG) (hy : vfacts C y bts n ret k) (hR : rm.frames + 1 ≤ R.frames ∧ 8 + (n + 11) + rm.locals ≤ R.locals) (hz : rm.cells = 0 ∧ rm.slots = 0) (hc : cells ≤ R.cells ∧ slots ≤ R.slots) (hp : PreV s H C b Pc As) (hn : As.length = k) (hsz : ls.size = nL) (hst : st = As.reverse ++ .ref b :: rest) (hroom : (rest.map fun v => v.category).sum ≤ 8) (hdg : decode cc pc = .ok (.invokevirtual idx, 3)) (hS : va_S A0 H0 H locs) (hf : ∀ q, inW w q → A0 q)
    (kk : ∀ (r : α) (u : S) (H1 : Heap) (locs1 : List Loc), post r u → va_P D vwCl (w1 u) H1 → (∀ q : Nat, q < H.size → ¬ inW w q → H1[q]? = H[q]?) → va_S A0 H0 H1 locs1 → W p l e R s m args below meth c H1 locs1 cells slots Q (F0 m (pc + 3) ls ((mk r).toList ++ rest))) : W p l e R s m args below meth c H locs cells slots Q (F0 m pc ls st) := by
  intro T hT X
  obtain ⟨v, st₀, t, T', L, h0, X', hL, e1, ⟨⟨r, u, hv, hpo, hP1⟩, hsz1, hk⟩, stp⟩ := (W.runV (As := As) (rest := rest) ⟨hx, hb, hml, hown, hg⟩ hM (cwV_of hg hl hy hz.1 hz.2 hR) hp rfl hn hsz hst (lv_room hroom) hdg hc) T hT X
  cases hv
  rw [h0] at hsz1 hk
  obtain ⟨t2, a1, b1⟩ := kk r u t.heap (locs ++ L) hpo hP1 hk
    ⟨Nat.le_trans hS.1 hsz1, fun q h1 h2 => by rw [hk q (Nat.lt_of_lt_of_le h1 hS.1) (fun z => h2 (hf q z))]; exact hS.2.1 q h1 h2, fun q hq => by
      rcases List.mem_append.mp hq with h | h
      · exact hS.2.2 q h
      · exact hf _ (hL q h)⟩ T' e1 X'
  exact ⟨t2, stp t2 a1, b1⟩
end WCALL
section WENDS
variable {p : Program} {l : Launch} {e : Env} {R : Room} {s : State} {m : MethodId} {args : Array Value} {below : List Frame} {meth : Method} {c : Code} {cc : ByteArray} {pc : Nat} {ls : Array Slot} {H : Heap} {locs : List Loc} {D : va_G} {w : va_W}
theorem wr_i {S : Type} {w1 : S → va_W} {post : Int32 → S → Prop} (hx : p.tables.exec = Jvm.exec) (hb : c.code = cc) (hr : meth.sig.returnType = some .int) (hlocks : meth.locks = false) (hS : va_S (inW w) s.heap H locs) {v : Int32} (u : S) (hP : va_P D vwCl (w1 u) H) (hdg : decode cc pc = .ok (.ireturn, 1)) (hv : post v u) : W p l e R s m args below meth c H locs 0 0 (MQ below (wq mkI w w1 D post) args s 0 0 (inW w)) (F0 m pc ls [.int v]) :=
  W.iret hx hb hr (fun t ht _ => ⟨⟨v, u, rfl, hv, by rw [ht]; exact hP⟩, hS.F ht⟩) hS.2.2 hdg
theorem wr_l {S : Type} {w1 : S → va_W} {post : Int64 → S → Prop} (hx : p.tables.exec = Jvm.exec) (hb : c.code = cc) (hr : meth.sig.returnType = some .long) (hlocks : meth.locks = false) (hS : va_S (inW w) s.heap H locs) {v : Int64} (u : S) (hP : va_P D vwCl (w1 u) H) (hdg : decode cc pc = .ok (.lreturn, 1)) (hv : post v u) : W p l e R s m args below meth c H locs 0 0 (MQ below (wq mkL w w1 D post) args s 0 0 (inW w)) (F0 m pc ls [.long v]) :=
  W.lret hx hb hr (fun t ht _ => ⟨⟨v, u, rfl, hv, by rw [ht]; exact hP⟩, hS.F ht⟩) hS.2.2 hdg
theorem wr_v {S : Type} {w1 : S → va_W} {post : Unit → S → Prop} (hx : p.tables.exec = Jvm.exec) (hb : c.code = cc) (hr : meth.sig.returnType = none) (hlocks : meth.locks = false) (hS : va_S (inW w) s.heap H locs) (u : S) (hP : va_P D vwCl (w1 u) H) (hdg : decode cc pc = .ok (.return_, 1)) (hv : post () u) : W p l e R s m args below meth c H locs 0 0 (MQ below (wq mkV w w1 D post) args s 0 0 (inW w)) (F0 m pc ls []) :=
  W.vret hx hb hr (fun t ht _ => ⟨⟨(), u, rfl, hv, by rw [ht]; exact hP⟩, hS.F ht⟩) hS.2.2 hdg
end WENDS
