/-- how a body that throws E ends: nothing that was there is changed, one thing is made -/
def sk_TQ (below : List Frame) (E : String) (s t : State) : Prop := ∃ (q : Addr) (ce : Cell), t.status = .running ∧ Ended t below (.threw q) ∧ t.heap[q]? = some ce ∧ ce.vm = .none ∧ s.vm.findClass E = some ce.cls ∧ s.WarmedH t.vm ∧ s.sameButNew ({ t with vm := s.vm } : State) [] 1 6
/-- a method that throws E -/
def sk_MT (l : Launch) (y : MethodName) (ws : List Cond) (rm : Room) (Pc : Array Value → State → Prop) (E : String) : Prop :=
  MetFree l y (headSpec ws rm) Pc (fun _ _ _ _ _ => True) (fun _ st o t => (∃ (q : Addr) (ce : Cell), o = .threw q ∧ t.heap[q]? = some ce ∧ ce.vm = .none ∧ st.vm.findClass E = some ce.cls) ∧ FrameEndT st o t [] 1 6)
section SKT
variable {p : Program} {l : Launch} {e : Env} {R : Room} {s : State} {m : MethodId} {args : Array Value} {below : List Frame} {meth : Method} {c : Code} {H : Heap} {locs : List Loc} {cells slots : Nat} {Q : State → Prop}
variable {cc : ByteArray} {pc : Nat} {ls : Array Slot} {rest : List Value}
/-- throw new E("text"), where nothing has been written -/
theorem sk_throwS (hexec : p.tables.exec = Jvm.exec) (hb : c.code = cc) (htr : l.stackTraces = false) {own E text : String} {names : List String} {ik ix ic sa : Nat} (hown : s.vm.findClass own = some m.cls) (hE : Jvm.Bundle.fit E = true) (hnames : ∀ n ∈ names, Jvm.Bundle.fit n = true)
    (hk : (Cond.classLink own ik E).before args s = true) (hini : (Cond.initialized E).before args s = true) (hstr : vk_R own ix text sa s) (hat : ∀ w ∈ Jvm.Bundle.ownAtoms own ic E names, w.before args s = true)
    (hS : va_S (fun _ => False) s.heap H locs) (hsize : ls.size = c.maxLocals) (hout : c.exceptionTable.isEmpty = true)
    (d0 : decode cc pc = .ok (.new ik, 3)) (d3 : decode cc (pc + 3) = .ok (.dup, 1)) (d4 : decode cc (pc + 4) = .ok (.ldc ix, 2)) (d6 : decode cc (pc + 6) = .ok (.invokespecial ic, 3)) (d9 : decode cc (pc + 9) = .ok (.athrow, 1))
    (hf : names.length + 3 < R.frames) (hl : (rest.map fun v => v.category).sum + (13 * (names.length + 1) + 43) ≤ R.locals) (hc : 1 ≤ R.cells) (hs : 6 ≤ R.slots) (hlocks : meth.locks = false) :
    W p l e R s m args below meth c H locs 0 0 (sk_TQ below E s) (F0 m pc ls rest) := by
  have hlo : locs = [] := by
    cases locs with
    | nil => rfl
    | cons z r => exact (hS.2.2 z List.mem_cons_self).elim
  subst hlo
  intro T hT X
  have hoff : e.platform.stackTraces = false := by
    have h9 : e.platform.stackTraces = l.stackTraces := by rw [X.admits.platform]
    rw [h9]; exact htr
  have hins : (Cond.instantiable E 6).before args s = true := hat _ (by simp [Jvm.Bundle.ownAtoms])
  have hTz : s.heap.size ≤ T.heap.size := by rw [hT]; exact hS.1
  obtain ⟨vm1, cE, kE, hfE, hkE, -, -, X1, st1⟩ := X.newCold hexec hown hk hins hini (g := F0 m pc ls rest) rfl (by rw [hb]; exact d0) (by omega) (by omega)
  have hfresh : ((T.setVm vm1).pushCell { cls := cE, slots := kE.instanceTypes.map defaultValue, vm := .none }).heap[T.heap.size]? = some (freshCell cE kE) := State.heap_pushCell_size (T.setVm vm1) _
  generalize (T.setVm vm1).pushCell { cls := cE, slots := kE.instanceTypes.map defaultValue, vm := .none } = T1 at X1 st1 hfresh
  have hnil : ∀ x ∈ c.exceptionTable.toList, covers x (pc + 9) = false := by
    have h9 : c.exceptionTable = #[] := by simpa using hout
    rw [h9]
    intro x hx
    cases hx
  obtain ⟨U, hgo, hrun, hend, hW, hsame, ce, hce, hO⟩ := X1.ctorThrowS hexec hoff (own := own) (cls := E) (names := names) (ic := ic) hown hE hnames hat (fun x hx => by cases hx) hfE hkE hfresh hTz (msg := .ref sa) rfl
    (g := F0 m (pc + 6) ls (.ref sa :: .ref T.heap.size :: .ref T.heap.size :: rest)) rfl hsize rfl rfl (rest := rest) rfl (by rw [hb]; exact d6) (by rw [hb]; exact d9) hnil hf (by show 0 + ((Value.ref T.heap.size).category + (rest.map fun v => v.category).sum) + _ ≤ _; have h1 : (Value.ref T.heap.size).category = 1 := rfl; omega) hlocks
  refine ⟨U, st1 U ?_, T.heap.size, ce, hrun, hend, hce, hO.vm, hO.cls, hW, hsame⟩
  have d3' : decode c.code (pc + 3) = .ok (.dup, 1) := by rw [hb]; exact d3
  have d4' : decode c.code (pc + 4) = .ok (.ldc ix, 2) := by rw [hb]; exact d4
  show Steps p.tables e below (T1.setTop (F0 m (pc + 3) ls (.ref T.heap.size :: rest))) U
  jvm_step X1.here [X1.here.top, hexec, d3', Value.category]
  exact X1.ldcString hexec (own := own) (text := text) (index := ix) (a := sa) hown hstr.1 hstr.2 (g := F0 m (pc + 4) ls (.ref T.heap.size :: .ref T.heap.size :: rest)) rfl d4' U hgo
theorem sk_MT.ofW {y : MethodName} {ws ws' : List Cond} {rm : Room} {Pc : Array Value → State → Prop} {E : String} {maxL : Nat} {ret : Option FieldType} (hy : plainName y.cls = true) (hw : ws = Cond.code y cc maxL ret :: ws')
    (body : ∀ p e s m args below meth c s₁, BodyLoose p l y (headSpec ws rm) cc maxL ret e s m args below meth c s₁ → c.maxLocals = maxL → c.exceptionTable.isEmpty = true → Pc args s → W p l e (headSpec ws rm).room s m args below meth c s.heap [] 0 0 (sk_TQ below E s) (entryFrame m args maxL)) : sk_MT l y ws rm Pc E := by
  have hin : Cond.code y cc maxL ret ∈ ws := by rw [hw]; exact List.mem_cons_self
  refine MetFree.of_bodyS (code := cc) (maxLocals := maxL) (ret := ret) hy (fun args s m h hn => ?_) (fun p e s m args below meth c s₁ B hml hP _ => ?_)
  · obtain ⟨meth, c, h1, h2, h3, h4, h5, h6, -, -⟩ := Cond.code_spec hn (atoms_spec (ws := ws) h _ hin)
    exact ⟨meth, c, h1, h2, h3, h4, h5, h6⟩
  · have he := B.noHandlers (atoms_spec (ws := ws) B.pre _ hin)
    obtain ⟨t, h1, q, ce, h2, h3, h4, h5, h6, h7, h8⟩ := body p e s m args below meth c s₁ B hml he hP s₁ (by rw [B.state]; rfl) (Stand.of_body B)
    exact ⟨t, .threw q, h1, h2, h3, ⟨q, ce, rfl, h4, h5, h6⟩, ⟨q, rfl⟩, h7, h8⟩
end SKT
