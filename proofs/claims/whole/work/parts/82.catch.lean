/-- where a call has thrown q of class E over the point A: what was there is as it was -/
def sk_PT (E : String) : Pt → Array Value → Addr → Pt → Prop := fun A _ q B =>
  (∃ ce : Cell, B.U.heap[q]? = some ce ∧ ce.vm = .none ∧ A.U.vm.findClass E = some ce.cls) ∧ B.locs = A.locs ∧ B.cells = A.cells + 1 ∧ B.slots = A.slots + 6 ∧ A.U.heap.size ≤ B.U.heap.size ∧ ∀ j : Nat, j < A.U.heap.size → B.U.heap[j]? = A.U.heap[j]?
theorem sk_oldT {st t : State} {o : Outcome} (h : FrameEndT st o t [] 1 6) : st.heap.size ≤ t.heap.size ∧ ∀ j : Nat, j < st.heap.size → t.heap[j]? = st.heap[j]? := by
  refine ⟨h.2.2.2.1, fun j hj => ?_⟩
  have h1 : st.heap[j]? = some st.heap[j] := Array.getElem?_eq_some_iff.mpr ⟨hj, rfl⟩
  rw [h1]
  exact h.2.2.old_cell h1
section SKC
variable {p : Program} {l : Launch} {e : Env} {R : Room} {s : State} {m : MethodId} {args : Array Value} {below : List Frame} {meth : Method} {c : Code} {H : Heap} {locs : List Loc} {cells slots : Nat} {Q : State → Prop}
variable {cc : ByteArray} {pc nL : Nat} {ls : Array Slot} {rest st0 : List Value}
theorem sk_backT {y : MethodName} {ws : List Cond} {rm : Room} {Pc : Array Value → State → Prop} {E own : String} {bytes : ByteArray} {maxL index n : Nat} {ret : Option FieldType} (cb : CallB R s args own index y bytes maxL ret ws rm 1 6 n) (hM : sk_MT l y ws rm Pc E) (hbl : FrameBlind Pc) : BackT l R p e below s args y 3 8 (PreOf R 1 6 Pc) (sk_PT E) := by
  obtain ⟨hrc, hrs, hfr, hlo, hws, hcw, -, hini, -⟩ := cb
  refine BackT.of_free (S := headSpec ws rm) (P := Pc) (K := fun _ _ _ _ _ => True) (bytes := bytes) (maxL := maxL) (ret := ret) (E := fun _ st o t L k9 n9 => L = [] ∧ k9 = 1 ∧ n9 = 6 ∧ FrameEndT st o t [] 1 6) hM hfr hlo ?_ (fun _ _ _ A a g mk _ hp => hbl a A.U g mk hp.2.2) (fun _ _ _ _ _ _ _ _ _ => trivial) (fun a st o t hq => ⟨[], 1, 6, hq.2, rfl, rfl, rfl, hq.2⟩) ?_
  · intro m9 meth9 c9 A a X hp
    exact ⟨atoms_intro fun w hw => hws w hw _ _ X.warmed, hws _ hcw _ _ X.warmed, word_at X.warmed (Or.inl rfl) hini, by rw [show (headSpec ws rm).room.cells = 1 from hrc]; exact hp.1, by rw [show (headSpec ws rm).room.slots = 6 from hrs]; exact hp.2.1⟩
  · intro m9 meth9 c9 A a g mk v t L k9 n9 X hp hq hF hE
    obtain ⟨⟨q, ce, hv, h1, h2, h3⟩, -⟩ := hq
    obtain ⟨rfl, rfl, rfl, hF9⟩ := hE
    cases hv
    obtain ⟨o1, o2⟩ := sk_oldT hF9
    exact ⟨⟨ce, h1, h2, h3⟩, List.append_nil _, rfl, rfl, o1, o2⟩
/-- a call of a method that throws E, and the row of this method's table that takes it -/
theorem sk_callC {y : MethodName} {ws : List Cond} {rm : Room} {Pc : Array Value → State → Prop} {E nm own C : String} {bytes : ByteArray} {maxL index n : Nat} {ret : Option FieldType} {Ts : List Cond} {b : Addr} {As : List Value} (S : CallFix p m c cc nL s args Ts own) (hM : sk_MT l y ws rm Pc E) (cw : CallW R s args own C index y bytes maxL ret ws rm 1 6 n) (hp : PreV s H C b Pc As)
    (hn : As.length = n) (hsize : ls.size = nL) (hstack : st0 = As.reverse ++ .ref b :: rest) (hW : (rest.map fun v => v.category).sum ≤ 8) (hdg : decode cc pc = .ok (.invokevirtual index, 3)) (hc : cells + 1 ≤ R.cells) (hs : slots + 6 ≤ R.slots)
    (pre : List ExceptionTableEntry) (x : ExceptionTableEntry) (suf : List ExceptionTableEntry) (hsplit : c.exceptionTable.toList = pre ++ x :: suf) (hpass : ∀ z ∈ pre, z.catchType ≠ 0 ∧ ∃ n9 : String, (Cond.classLink own z.catchType n9).before args s = true ∧ va_Nc E n9 s)
    (hx : covers x pc = true) (h0 : x.catchType ≠ 0) (hlink : (Cond.classLink own x.catchType nm).before args s = true) (hcast : (Cond.castable E nm).before args s = true)
    (kk : ∀ (q : Nat) (H1 : Heap), H.size ≤ H1.size → (∀ j : Nat, j < H.size → H1[j]? = H[j]?) → W p l e R s m args below meth c H1 locs (cells + 1) (slots + 6) Q (F0 m x.handlerPc ls [.ref q])) : W p l e R s m args below meth c H locs cells slots Q (F0 m pc ls st0) := by
  have hB : BackT l R p e below s args y 3 8 (PreOf R 1 6 Pc) (sk_PT E) := sk_backT cw.1 hM hp.1
  obtain ⟨⟨-, -, -, -, -, -, hcode, -, hy, hlen, hl⟩, hin, hse⟩ := cw
  obtain ⟨hexec, hb, hml, hown, -⟩ := S
  obtain ⟨-, ⟨cellB, hcB, hoB, hclB⟩, hPc⟩ := hp
  intro T hT X
  have hpl : e.platform.magicAccessors = ({} : Platform).magicAccessors := by rw [X.admits.platform]
  obtain ⟨mk, methM, hnamed, hmethM, hstM, habM⟩ := Cond.instanceMethod_spec hin
  obtain ⟨methM', cM, hmethM', -, -, -, -, -, -, hsigM⟩ := Cond.code_spec hnamed hcode
  cases hmethM.symm.trans hmethM'
  obtain ⟨c2, r2, m2, q1, q2, q3, q4, kP, hkP, hkPi⟩ := Cond.selects_spec hse
  cases hclB.symm.trans q1
  cases (State.methodFound?_of_named hnamed hy).symm.trans q2
  cases hnamed.symm.trans q3
  have hsel : selectMethod e.platform s.vm cellB.cls mk = .method mk := by rw [Launch.admits_selectMethod X.admits]; exact q4
  obtain ⟨vm1, X1, go1⟩ := X.invokevirtual hexec hown hl hnamed hmethM hstM hkP hkPi hy (a := b) (cell := cellB) (by rw [hT]; exact hcB) (fun z h => by rw [h] at hoB; cases hoB) hsel hmethM habM hkP hkPi (g := F0 m pc ls st0) rfl (argsL := As) (rest := rest) (hn.trans (hlen _ hsigM)) hstack (by rw [hb]; exact hdg)
  obtain ⟨q, B, X2, ⟨⟨ce, hce, hcv, hcl⟩, hBl, hBc, hBs, hB1, hB2⟩, go2⟩ := hB m meth c ⟨T.setVm vm1, locs, cells, slots⟩ (F0 m pc ls rest) (.invokevirtual index) mk (Value.ref b :: As).toArray X1 rfl (hsize.trans hml.symm) (by rw [hb]; exact hdg) (by show 2 * 0 + (rest.map fun v => v.category).sum ≤ 8; omega) (X1.named hnamed) ⟨hc, hs, hPc (T.setVm vm1) hT X1.warmed⟩
  obtain ⟨U, l2, c2', s2⟩ := B
  dsimp only [Pt.U, Pt.locs, Pt.cells, Pt.slots] at X2 hce hcl hBl hBc hBs hB1 hB2 go2
  subst hBl hBc hBs
  have hclS : s.vm.findClass E = some ce.cls := by
    rw [← X1.warmed.alike.findClass]; exact hcl
  obtain ⟨c3, c4, hc3, hc4, hasg⟩ := Cond.castable_spec hcast
  cases hc3.symm.trans hclS
  obtain ⟨c5, hc5, hln5⟩ := Cond.classLink_spec hown hlink e.platform hpl
  cases hc4.symm.trans hc5
  have hcome : Steps p.tables e below (T.setTop (F0 m pc ls st0)) ((U.setTop (F0 m pc ls rest)).pushFrame (.throwing q)) := go1 _ fun acts => by rw [doInvoke_state]; exact go2
  obtain ⟨vm3, X3, go3⟩ := X2.thenCaughtThrough q (g := F0 m pc ls rest) rfl hcome hce (by rw [hcv]; rfl) (by obtain ⟨k9, h9, -⟩ := Vm.findClass_spec hclS; exact ⟨k9, h9⟩) pre x suf hsplit (fun z hz => by
    obtain ⟨z0, n9, hz1, a8, b8, h1, h2, h3⟩ := hpass z hz
    obtain ⟨c6, hc6, hln6⟩ := Cond.classLink_spec hown hz1 e.platform hpl
    cases h1.symm.trans hclS
    cases h2.symm.trans hc6
    exact Or.inr ⟨z0, _, hln6, h3⟩) hx (Or.inr ⟨h0, c4, hln5, hasg⟩)
  have hTz : T.heap.size ≤ U.heap.size := hB1
  obtain ⟨t, a1, b1⟩ := kk q U.heap (by rw [← hT]; exact hTz) (fun j hj => by rw [← hT]; exact hB2 j (by rw [← hT] at hj; exact hj)) (U.setVm vm3) rfl X3
  exact ⟨t, go3.trans a1, b1⟩
/-- a body with a table of handlers -/
theorem sk_ofWH {y : MethodName} {ws ws' : List Cond} {rm : Room} {Pc : Array Value → State → Prop} {Qc : Array Value → State → Outcome → State → Prop} {mc ms maxL : Nat} {free : Addr → Prop} {ret : Option FieldType} {hh : List (Nat × Nat × Nat × Nat)} (hy : plainName y.cls = true) (hw : ws = Cond.codeWith y cc maxL ret hh :: ws')
    (body : ∀ p e s m args below meth c s₁, BodyLoose p l y (headSpec ws rm) cc maxL ret e s m args below meth c s₁ → c.maxLocals = maxL → c.exceptionTable.toList.map (fun h => (h.startPc, h.endPc, h.handlerPc, h.catchType)) = hh → Pc args s → W p l e (headSpec ws rm).room s m args below meth c s.heap [] 0 0 (MQ below Qc args s mc ms free) (entryFrame m args maxL)) : Met l y ws rm Pc Qc mc ms free := by
  have hin : Cond.codeWith y cc maxL ret hh ∈ ws := by rw [hw]; exact List.mem_cons_self
  refine MetFree.of_bodyS (code := cc) (maxLocals := maxL) (ret := ret) hy (fun args s m h hn => ?_) (fun p e s m args below meth c s₁ B hml hP _ => ?_)
  · obtain ⟨m9, meth, c, h0, h1, h2, h3, h4, -, h5, h6, -⟩ := Cond.codeWith_spec (atoms_spec (ws := ws) h _ hin)
    cases hn.symm.trans h0
    exact ⟨meth, c, h1, h2, h3, h4, h5, h6⟩
  · obtain ⟨m9, meth9, c9, h0, h1, h2, h3, h4, h7, h5, h6, -⟩ := Cond.codeWith_spec (atoms_spec (ws := ws) B.pre _ hin)
    cases B.named.symm.trans h0
    cases B.method.symm.trans h1
    cases (Stand.of_body B).code.symm.trans h2
    obtain ⟨t, a1, o, b1, b2, b3⟩ := body p e s m args below meth c s₁ B hml h7 hP s₁ (by rw [B.state]; rfl) (Stand.of_body B)
    exact ⟨t, o, a1, b1, b2, b3⟩
/-- a static call of a method with a table of handlers -/
theorem sk_runSW {y : MethodName} {ws : List Cond} {rm : Room} {Pc : Array Value → State → Prop} {Qc : Array Value → State → Outcome → State → Prop} {mc ms maxL index n : Nat} {free : Addr → Prop} {bytes : ByteArray} {ret : Option FieldType} {hh : List (Nat × Nat × Nat × Nat)} {Ts : List Cond} {own : String} {As : List Value} {g : JFrame}
    (S : CallFix p m c cc nL s args Ts own) (hM : Met l y ws rm Pc Qc mc ms free) (hrc : rm.cells = mc) (hrs : rm.slots = ms) (hfr : rm.frames + 1 ≤ R.frames) (hlo : 8 + (maxL + 11) + rm.locals ≤ R.locals) (hws : ∀ w ∈ ws, ∀ (a' : Array Value) (U : State), s.WarmedH U.vm → w.before a' U = true) (hcw : Cond.codeWith y bytes maxL ret hh ∈ ws)
    (hini : (Cond.initialized y.cls).before args s = true) (hy : y.cls ≠ "java/lang/invoke/MethodHandle" ∧ y.cls ≠ "java/lang/invoke/VarHandle") (hlen : ∀ sig, parseMethodDescriptor y.desc = some sig → n = sig.parameters.length) (hl : (Cond.methodLink own index y).before args s = true) (hst : (Cond.static y).before args s = true) (hp : PreS s H Pc As)
    (hg : g.method = m) (hn : As.length = n) (hsize : g.locals.size = nL) (hstack : g.stack = As.reverse ++ rest) (hW : 2 * g.monitorRoom + (rest.map fun v => v.category).sum ≤ 8) (hdg : decode cc g.pc = .ok (.invokestatic index, 3)) (hf : cells + mc ≤ R.cells ∧ slots + ms ≤ R.slots) :
    va_Run p l e R s m args below meth c H locs cells slots mc ms g rest (Qc As.toArray) free := by
  have hB : Back l R p e below s args y 3 8 (PreOf R mc ms Pc) (PostOf Qc mc ms free) := by
    refine Back.of_freeWith (S := headSpec ws rm) (P := Pc) (K := fun _ _ _ _ _ => True) (handlers := hh) (bytes := bytes) (maxL := maxL) (ret := ret) (E := fun _ _ _ _ L k9 n9 => k9 = mc ∧ n9 = ms ∧ ∀ q ∈ L, free q.base) hM hfr hlo ?_ (fun _ _ _ A a g mk _ h9 => hp.1 a A.U g mk h9.2.2) (fun _ _ _ _ _ _ _ _ _ => trivial) ?_ ?_
    · intro m9 meth9 c9 A a X h9
      exact ⟨atoms_intro fun w hw => hws w hw _ _ X.warmed, hws _ hcw _ _ X.warmed, word_at X.warmed (Or.inl rfl) hini, by rw [show (headSpec ws rm).room.cells = mc from hrc]; exact h9.1, by rw [show (headSpec ws rm).room.slots = ms from hrs]; exact h9.2.1⟩
    · intro a st o t ⟨hq, L, hF, hL⟩
      exact ⟨L, mc, ms, hF, rfl, rfl, hL⟩
    · intro m9 meth9 c9 A a g mk v t L k9 n9 X h9 hq hF hE
      obtain ⟨rfl, rfl, hL⟩ := hE
      exact ⟨g, mk, t, L, rfl, rfl, hq.1, rfl, hL, rfl, rfl⟩
  obtain ⟨hexec, hb, hml, hown, -⟩ := S
  intro T hT X
  have hcode : (Cond.codeWith y bytes maxL ret hh).before args s = true := by
    have h9 := hws _ hcw args s (State.WarmedH.refl s)
    exact h9
  obtain ⟨mk, methM, cM, hnamed, hmethM, -, -, -, -, -, -, hsigM⟩ := Cond.codeWith_spec hcode
  have hstatic : methM.isStatic = true := Cond.static_spec hnamed hmethM hst
  obtain ⟨kP, hkP, -⟩ := className_of_methodNamed hnamed
  have hinitP : kP.init = .initialized := Cond.initialized_spec (findClass_of_methodNamed hnamed) hkP hini
  obtain ⟨vm1, X1, go1⟩ := X.invokestatic hexec hown hl hnamed hmethM hstatic hkP hinitP hy (g := g) hg (argsL := As) (rest := rest) (hn.trans (hlen _ hsigM)) hstack (by rw [hb]; exact hdg)
  obtain ⟨v, B, X2, ⟨g2, mk2, t, L, e1, e2, hq, h1, hL, h2, h3⟩, go2⟩ := hB m meth c ⟨T.setVm vm1, locs, cells, slots⟩ { g with stack := rest } (.invokestatic index) mk As.toArray X1 hg (hsize.trans hml.symm) (by rw [hb]; exact hdg) hW (X1.named hnamed) ⟨hf.1, hf.2, hp.2 (T.setVm vm1) hT X1.warmed⟩
  obtain ⟨U, l2, c2, s2⟩ := B
  dsimp only [Pt.U, Pt.locs, Pt.cells, Pt.slots] at X2 e1 e2 h1 h2 h3 go2
  subst h1 h2 h3
  exact ⟨v, (T.setVm vm1).calling g2 mk2 As.toArray, t, U, L, hT, X2, hL, e1, e2, hq, fun target h => go1 _ fun acts => by rw [doInvoke_state]; exact go2.trans h⟩
end SKC
