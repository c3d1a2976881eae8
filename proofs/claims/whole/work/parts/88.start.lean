/-! THE CLAIM OUT OF ONE WALK OF THE LAW'S BODY. Your part is whole_start (and what it stands on); all else here is the same for every law, but numbers. -/
def R_law : String := "ShapeKeeperLaw"
def lw_P (b : Addr) (xs : List Int32) (args : Array Value) (s : State) : Prop := args = #[.ref b] ∧ s.IntsAt b xs ∧ xs.length ≤ 2048 ∧ (Jvm.Cond.and given_1 narrow_1).before args s = true
def lw_Q (_ : Array Value) (s : State) (o : Outcome) (t : State) : Prop := o = .returned (some (.int 1)) ∧ Framed s o t [] 601024 7293034
def lw_Z (below : List Frame) (a : Array Value) (s : State) : State → Prop := fun t => ∃ o, t.status = .running ∧ Ended t below o ∧ lw_Q a s o t
/-- the law's own end, with 1 on the stack, nothing written that was there before, its room as the claim has it -/
theorem lw_ret {p : Program} {l : Launch} {e : Env} {s : State} {m : MethodId} {below : List Frame} {meth : Method} {c : Code} {b : Nat} (hx : p.tables.exec = Jvm.exec) (hb : c.code = code) (hr : meth.sig.returnType = ret) (hlocks : meth.locks = false) {pc : Nat} {H : Heap} {ls : Array Slot} (hdg : decode code pc = .ok (.ireturn, 1)) : W p l e room_1 s m #[Value.ref b] below meth c H [] 601024 7293034 (lw_Z below #[Value.ref b] s) (F0 m pc ls [.int 1]) := by
  intro T hT X
  obtain ⟨fs, hret, hrun, hended, hW, hframe⟩ := X.leave (v := some (.int 1)) (hlocks := hlocks) (fun h => by rw [hr] at h; cases h)
  have hmeth' : T.vm.method? m = some meth := X.method'
  refine ⟨T.setFrames fs, ?_, .returned (some (.int 1)), hrun, hended, rfl, ⟨_, rfl⟩, hW, hframe⟩
  jvm_step X.here [X.here.top, hx, hb, hdg, hmeth', hr, ret, narrow_b1]
  (try refine ⟨rfl, ?_⟩); (try refine ⟨rfl, ?_⟩)
  first | (intro acts; rw [hret _ acts rfl rfl rfl]) | rw [hret _ _ rfl rfl rfl]
  exact Steps.refl _
/-- what holds at the law's entry: the machine, the code, the tables' words (any of lw_tbl by 'hts w (by decide +kernel)'), the script of L ints xs at the cell b, what the Statement gives of the start (any of its parts by flat_of_before) -/
def lw_At (p : Program) (s : State) (m : MethodId) (meth : Method) (c : Code) (b L : Nat) (xs : Nat → Int32) : Prop :=
  p.tables.exec = Jvm.exec ∧ c.code = code ∧ meth.sig.returnType = ret ∧ c.maxLocals = 7 ∧ s.vm.findClass R_law = some m.cls ∧ (∀ w ∈ lw_tbl, w.before #[Value.ref b] s = true) ∧ va_X b L xs s s.heap ∧ b < s.heap.size ∧ meth.locks = false ∧ (Jvm.Cond.and given_1 narrow_1).before #[Value.ref b] s = true
/-! the law's loop: what holds at its head -/
def sk_LW (a am : Nat → Nat) (k : Nat → ClassId) (oa : Nat) (S : sk_S) (wt : sk_F) (ex : sk_Ex) (lf : sk_F) (th : Int32) (fo : Nat → Int64) : va_W := [sk_wO oa k fo] ++ (sk_wX a k S wt ++ sk_wM am k S ex lf th)
def sk_LA (s : State) : Nat → Prop := fun q => s.heap.size ≤ q
def sk_L0 (p : Program) (s : State) (m : MethodId) (meth : Method) (c : Code) (b L : Nat) (xs : Nat → Int32) (l : Launch) (dC : Nat → ClassId) (dI : Nat → Nat → Nat) (k : Nat → ClassId) : Prop :=
  lw_At p s m meth c b L xs ∧ L ≤ 2048 ∧ l.stackTraces = false ∧ sk_TW0 s ∧ va_K (dC, dI) vwCl (sk_tys k) s ∧ sk_NW s
def sk_LC (p : Program) (l : Launch) (e : Env) (s : State) (m : MethodId) (below : List Frame) (meth : Method) (c : Code) (b : Nat) (dC : Nat → ClassId) (dI : Nat → Nat → Nat) (a am : Nat → Nat) (k : Nat → ClassId) (oa j : Nat) : Prop :=
  ∀ (S : sk_S) (wt : sk_F) (ex : sk_Ex) (lf : sk_F) (th : Int32) (fo : Nat → Int64) (H : Heap) (locs : List Loc) (ls : Array Slot), sk_OK j S → sk_RM S ex → va_P (dC, dI) vwCl (sk_LW a am k oa S wt ex lf th fo) H → va_D (sk_LA s) (sk_LW a am k oa S wt ex lf th fo) → va_S (sk_LA s) s.heap H locs →
    lv_has ls 7 [(0, .ref b), (1, .ref (a 0)), (2, .ref (am 0)), (3, .ref oa), (4, .int (nI (4 * j)))] → W p l e room_1 s m #[Value.ref b] below meth c H locs (100 + j) (20000 + 6 * j) (lw_Z below #[Value.ref b] s) (F0 m 23 ls [])
theorem sk_lenp {d : String} {n : Nat} (h : (parseMethodDescriptor d).map (fun d => d.parameters.length) = some n) : ∀ sig, parseMethodDescriptor d = some sig → n = sig.parameters.length := fun sig h2 => by
  rw [h2] at h
  exact (Option.some.inj h).symm
theorem sk_tail {p : Program} {e : Env} {s : State} {m : MethodId} {below : List Frame} {meth : Method} {c : Code} {l : Launch} {b L : Nat} {xs : Nat → Int32} {dC : Nat → ClassId} {dI : Nat → Nat → Nat} {a am : Nat → Nat} {k : Nat → ClassId} {oa j cells slots : Nat} (C0 : sk_L0 p s m meth c b L xs l dC dI k) (hI : sk_LC p l e s m below meth c b dC dI a am k oa (j + 1)) (hc : cells ≤ 100 + (j + 1)) (hs : slots ≤ 20000 + 6 * (j + 1))
    {S : sk_S} {wt : sk_F} {ex : sk_Ex} {lf : sk_F} {th : Int32} {fo : Nat → Int64} {H : Heap} {locs : List Loc} {ls : Array Slot} (hOK : sk_OK (j + 1) S) (hR : sk_RM S ex) (hP : va_P (dC, dI) vwCl (sk_LW a am k oa S wt ex lf th fo) H) (hD : va_D (sk_LA s) (sk_LW a am k oa S wt ex lf th fo)) (hS : va_S (sk_LA s) s.heap H locs)
    (hl : lv_has ls 7 [(0, .ref b), (1, .ref (a 0)), (2, .ref (am 0)), (3, .ref oa), (4, .int (nI (4 * j)))]) : W p l e room_1 s m #[Value.ref b] below meth c H locs cells slots (lw_Z below #[Value.ref b] s) (F0 m 625 ls []) := by
  obtain ⟨⟨hx, hb, -⟩, -⟩ := C0
  refine W.widen hc hs ?_
  refine lv_iinc (v := nI (4 * (j + 1))) (lv' := [(4, .int (nI (4 * (j + 1)))), (0, .ref b), (1, .ref (a 0)), (2, .ref (am 0)), (3, .ref oa)]) hx hb dL_law_625 hl (k := 4) rfl (by show nI (4 * j) + nI 4 = _; rw [nI_add]; rfl) (by decide) rfl (fun ls hl => ?_)
  refine lv_goto (tgt := 23) hx hb dL_law_628 (by decide) ?_
  exact hI S wt ex lf th fo H locs ls hOK hR hP hD hS (lv_sub hl [1, 2, 3, 4, 0] rfl)
