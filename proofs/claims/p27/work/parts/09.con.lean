/-! ===== constructors ===== -/
def RPZ (D : va_G) (cI cB : ClassId) (aS sz : Nat) (w : va_W) (av : List Value) : Array Value → State → Prop := fun v U => RP D cI cB aS w av v U ∧ U.heap.size = sz
theorem RPZ.blind {D : va_G} {cI cB : ClassId} {aS sz : Nat} {w : va_W} {av : List Value} : FrameBlind (RPZ D cI cB aS sz w av) := fun a U g mk q => ⟨RP.blind a U g mk q.1, q.2⟩
theorem RPZ.pre {D : va_G} {cI cB : ClassId} {aS : Nat} {w : va_W} {s : State} {H : Heap} (hK : KP D cI cB aS s) (hP : va_P D vwCl w H) {As : List Value} : PreS s H (RPZ D cI cB aS H.size w As) As :=
  ⟨RPZ.blind, fun U hU hW => ⟨⟨rfl, by rw [hU]; exact hP, hK.warm hW⟩, by rw [hU]⟩⟩
abbrev cqv {S : Type} (D : va_G) (sz : Nat) (w : va_W) (w1 : S → va_W) (post : S → Prop) : Array Value → State → Outcome → State → Prop := va_Qv post (fun u t => va_P D vwCl (w1 u) t.heap ∧ va_D (va_A w sz) (w1 u)) (va_A w sz)
theorem met_ofC {l : Launch} {y : MethodName} {bts : ByteArray} {n : Nat} {ret : Option FieldType} {rm : Room} {D : va_G} {cI cB : ClassId} {aS sz : Nat} {w : va_W} {av : List Value} {Qc : Array Value → State → Outcome → State → Prop} {mc ms : Nat} {free : Addr → Prop} (hpl : plainName y.cls = true) (hlen : (lg_sl av).length ≤ n)
    (body : ∀ (p : Program) (e : Env) (s : State) (m : MethodId) (below : List Frame) (meth : Method) (c : Code) (ls : Array Slot), p.tables.exec = Jvm.exec → c.code = bts → meth.sig.returnType = ret → c.maxLocals = n → s.vm.findClass y.cls = some m.cls → (∀ w ∈ gG, w.before av.toArray s = true) → meth.locks = false → (y.name = "<init>" → meth.name = "<init>") → KP D cI cB aS s → s.heap.size = sz → va_P D vwCl w s.heap → lv_has ls n (lv_args 0 av) → W p l e rm s m av.toArray below meth c s.heap [] 0 0 (MQ below Qc av.toArray s mc ms free) (F0 m 0 ls [])) :
    Met l y (mw y bts n ret) rm (RPZ D cI cB aS sz w av) Qc mc ms free := by
  refine Met.ofW (cc := bts) (maxL := n) (ret := ret) hpl rfl ?_
  intro p e s m args below meth c s₁ B hml hv
  obtain ⟨⟨rfl, hP, hK⟩, hz⟩ := hv
  have hts := atoms_spec (ws := mw y bts n ret) B.pre
  have hl := lv_entry av (n := n) hlen
  rw [lg_entry_eq]
  exact body p e s m below meth c _ B.exec B.bytes B.returns hml (findClass_of_methodNamed B.named) (fun w hw => hts w (List.mem_cons_of_mem _ hw)) B.notSynchronized (fun h => by rw [← h]; exact (name_of_methodNamed B.named B.method).1) hK hz hP hl
theorem cI_eq {D : va_G} {cI cB cA : ClassId} {s : State} (hK : va_K D vwCl [(cI, .int), (cB, .long)] s) (h : va_K D vwCl ([(cI, .int), (cB, .long)] ++ [(cA, .int)]) s) : cA = cI := by
  have h1 : s.vm.findClass ("[" ++ FieldType.int.toString) = some cA := (h.2 2 _ rfl).2
  have h2 : s.vm.findClass ("[" ++ FieldType.int.toString) = some cI := (hK.2 0 _ rfl).2
  exact Option.some.inj (h1.symm.trans h2)
theorem cB_eq {D : va_G} {cI cB cA : ClassId} {s : State} (hK : va_K D vwCl [(cI, .int), (cB, .long)] s) (h : va_K D vwCl ([(cI, .int), (cB, .long)] ++ [(cA, .long)]) s) : cA = cB := by
  have h1 : s.vm.findClass ("[" ++ FieldType.long.toString) = some cA := (h.2 2 _ rfl).2
  have h2 : s.vm.findClass ("[" ++ FieldType.long.toString) = some cB := (hK.2 1 _ rfl).2
  exact Option.some.inj (h1.symm.trans h2)
theorem new_i {n : Nat} (cA : ClassId) : vp_cell cA (n, .inl (fun _ => nI 0)) = arrV cA n (fun _ => defaultValue .int) := rfl
theorem new_l {n : Nat} (cA : ClassId) : vp_cell cA (n, .inr (.inl (fun _ => 0))) = arrV cA n (fun _ => defaultValue .long) := rfl
section CWN
variable {R : Room} {s : State} {args : Array Value} {own C : String} {idx : Nat} {y : MethodName} {b : ByteArray} {n k : Nat} {rm : Room} {mc ms : Nat}
theorem cwIN_of {host : String} (hg : ∀ w ∈ gG, w.before args s = true) (hl : va_Nw (.methodLinkNest own idx y host) s) (hy : ifacts C y b n k) (hrc : rm.cells = mc) (hrs : rm.slots = ms) (hR : rm.frames + 1 ≤ R.frames ∧ 8 + (n + 11) + rm.locals ≤ R.locals) : va_CN R s args own idx y host b n none (mw y b n none) rm mc ms k ∧ y.name = "<init>" ∧ (Cond.instanceMethod y).before args s = true :=
  ⟨va_cnB k hg (gG_good (fun w hw => by
    rcases List.mem_cons.mp hw with rfl | h
    · exact hy.2.2.2.2
    · exact h)) rfl hrc hrs hl (by rw [hy.1.1]; exact hg _ hy.2.2.2.1) hy.1.2 hR, hy.2.1, hg _ hy.2.2.1⟩
end CWN
