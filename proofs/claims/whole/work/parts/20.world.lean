/-! the cells of the class's object: a 0 itself, a 1 .. a 3 its tables, a 4 .. a 18 their rows, a 100 .. a 159 the values' rows -/
def sk_rows (a : Nat → Nat) (k : Nat → ClassId) (va : Nat → sk_F) : va_W := (List.range 60).map (fun i => (a (100 + i), .inl (k 0, 12, .inl (va i))))
def sk_wR (a : Nat → Nat) (k : Nat → ClassId) (nO : Int32) (op sh ch : sk_F) (va : Nat → sk_F) (nS : Int32) (pr og la le : sk_F) (mk th nx : Int32) (fs fn fh fp : sk_F) (wy : Nat → Int64) (hd wt : sk_F) : va_W :=
  [(a 0, .inr (3, [.ref (a 1), .ref (a 2), .ref (a 3), .ref (a 4)])),
   (a 1, .inr (1, [.ref (a 5), .ref (a 6), .ref (a 7), .ref (a 8), .int nO])),
   (a 2, .inr (2, [.ref (a 9), .ref (a 10), .ref (a 11), .ref (a 12), .int nS])),
   (a 3, .inr (0, [.ref (a 13), .ref (a 14), .ref (a 15), .ref (a 16), .ref (a 17), .ref (a 18), .int mk, .int th, .int nx])),
   (a 4, .inl (k 0, 12, .inl wt)), (a 5, .inl (k 0, 60, .inl op)), (a 6, .inl (k 0, 60, .inl sh)), (a 7, .inl (k 0, 60, .inl ch)),
   (a 8, .inl (k 3, 60, .inr (.inr (.inr (.inr (fun i => if i < 60 then some (a (100 + i)) else none)))))),
   (a 9, .inl (k 0, 200, .inl pr)), (a 10, .inl (k 0, 200, .inl og)), (a 11, .inl (k 0, 200, .inl la)), (a 12, .inl (k 0, 200, .inl le)),
   (a 13, .inl (k 0, 100, .inl fs)), (a 14, .inl (k 0, 100, .inl fn)), (a 15, .inl (k 0, 100, .inl fh)), (a 16, .inl (k 0, 100, .inl fp)), (a 17, .inl (k 2, 100, .inr (.inl wy))), (a 18, .inl (k 1, 100, .inl hd))] ++ sk_rows a k va
theorem sk_app_get {X Y : va_W} {n : Nat} (hl : X.length = n) (i : Nat) : (X ++ Y)[n + i]? = Y[i]? := by
  subst hl
  rw [List.getElem?_append_right (Nat.le_add_right _ _), Nat.add_sub_cancel_left]
theorem sk_app_set {X Y : va_W} {n : Nat} (hl : X.length = n) (i : Nat) (x : Nat × va_E) : (X ++ Y).set (n + i) x = X ++ Y.set i x := by
  subst hl
  have h : X.length ≤ X.length + i := Nat.le_add_right _ _
  rw [List.set_append_right _ _ h, Nat.add_sub_cancel_left]
def sk_wX (a : Nat → Nat) (k : Nat → ClassId) (S : sk_S) (wt : sk_F) : va_W :=
  sk_wR a k (nI S.1.1) S.1.2.1 S.1.2.2.1 S.1.2.2.2.1 S.1.2.2.2.2 (nI S.2.1.1) S.2.1.2.1 S.2.1.2.2.1 S.2.1.2.2.2.1 S.2.1.2.2.2.2 (nI S.2.2.1) (nI (sk_there S.2.2)) (nI (S.2.2.1 % 100)) S.2.2.2.1 S.2.2.2.2.1 S.2.2.2.2.2.1 S.2.2.2.2.2.2.1 (fun i => lN (sk_nb (S.2.2.2.2.2.2.2.1 i))) (fun i => sk_bI (S.2.2.2.2.2.2.2.2 i)) wt
def sk_tys (k : Nat → ClassId) : List (ClassId × FieldType) := [(k 0, .int), (k 1, .boolean), (k 2, .long), (k 3, .array .int)]
theorem sk_row_get {a : Nat → Nat} {k : Nat → ClassId} {nO : Int32} {op sh ch : sk_F} {va : Nat → sk_F} {nS : Int32} {pr og la le : sk_F} {mk th nx : Int32} {fs fn fh fp : sk_F} {wy : Nat → Int64} {hd wt : sk_F} {i : Nat} (hi : i < 60) : (sk_wR a k nO op sh ch va nS pr og la le mk th nx fs fn fh fp wy hd wt)[19 + i]? = some (a (100 + i), .inl (k 0, 12, .inl (va i))) := by
  refine (sk_app_get (Y := sk_rows a k va) rfl i).trans ?_
  unfold sk_rows
  rw [List.getElem?_map, List.getElem?_range hi]
  rfl
theorem sk_rows_set {a : Nat → Nat} {k : Nat → ClassId} {va : Nat → sk_F} {i : Nat} {g : sk_F} (hi : i < 60) : (sk_rows a k va).set i (a (100 + i), .inl (k 0, 12, .inl g)) = sk_rows a k (va_up va i g) := by
  apply List.ext_getElem?
  intro j
  unfold sk_rows
  by_cases hj : j = i
  · subst hj
    rw [List.getElem?_set_self (by rw [List.length_map, List.length_range]; exact hi), List.getElem?_map, List.getElem?_range hi]
    show _ = some (a (100 + j), Sum.inl (k 0, 12, Sum.inl (va_up va j g j)))
    rw [va_up_self]
  · rw [List.getElem?_set_ne (Ne.symm hj), List.getElem?_map, List.getElem?_map]
    by_cases h60 : j < 60
    · rw [List.getElem?_range h60]
      show some (a (100 + j), Sum.inl (k 0, 12, Sum.inl (va j))) = some (a (100 + j), Sum.inl (k 0, 12, Sum.inl (va_up va i g j)))
      rw [va_up_ne _ _ hj]
    · rw [List.getElem?_eq_none (by rw [List.length_range]; omega)]
      rfl
theorem sk_row_set {a : Nat → Nat} {k : Nat → ClassId} {nO : Int32} {op sh ch : sk_F} {va : Nat → sk_F} {nS : Int32} {pr og la le : sk_F} {mk th nx : Int32} {fs fn fh fp : sk_F} {wy : Nat → Int64} {hd wt : sk_F} {i : Nat} {g : sk_F} (hi : i < 60) : (sk_wR a k nO op sh ch va nS pr og la le mk th nx fs fn fh fp wy hd wt).set (19 + i) (a (100 + i), .inl (k 0, 12, .inl g)) = sk_wR a k nO op sh ch (va_up va i g) nS pr og la le mk th nx fs fn fh fp wy hd wt := by
  refine (sk_app_set (Y := sk_rows a k va) rfl i _).trans ?_
  rw [sk_rows_set hi]
  rfl
/-- what a method of the class finds -/
def sk_PX (dC : Nat → ClassId) (dI : Nat → Nat → Nat) (a : Nat → Nat) (k : Nat → ClassId) (S : sk_S) (wt : sk_F) (U : State) : Prop := va_P (dC, dI) vwCl (sk_wX a k S wt) U.heap ∧ va_K (dC, dI) vwCl (sk_tys k) U ∧ sk_NW U
theorem sk_NW_warm {s U : State} (hW : s.WarmedH U.vm) (h : sk_NW s) : sk_NW U := by
  intro k w hk
  have hm := List.mem_of_getElem? hk
  have hw := h k w hk
  simp only [sk_NL, List.mem_cons, List.not_mem_nil, or_false] at hm
  rcases hm with rfl | rfl | rfl | rfl | rfl | rfl | rfl | rfl | rfl | rfl | rfl | rfl | rfl | rfl | rfl | rfl | rfl | rfl | rfl | rfl | rfl | rfl | rfl | rfl | rfl | rfl | rfl | rfl | rfl | rfl | rfl | rfl | rfl | rfl | rfl | rfl | rfl | rfl <;> first | exact va_Nw.warmF hW hw | exact va_Nw.warmM hW hw
theorem sk_NW_same {s U : State} (hv : s.vm = U.vm) (h : sk_NW s) : sk_NW U := by
  intro k w hk
  have hm := List.mem_of_getElem? hk
  have hw := h k w hk
  simp only [sk_NL, List.mem_cons, List.not_mem_nil, or_false] at hm
  rcases hm with rfl | rfl | rfl | rfl | rfl | rfl | rfl | rfl | rfl | rfl | rfl | rfl | rfl | rfl | rfl | rfl | rfl | rfl | rfl | rfl | rfl | rfl | rfl | rfl | rfl | rfl | rfl | rfl | rfl | rfl | rfl | rfl | rfl | rfl | rfl | rfl | rfl | rfl <;> exact va_Nw.same rfl hv hw
theorem sk_PX_call {dC : Nat → ClassId} {dI : Nat → Nat → Nat} {a : Nat → Nat} {k : Nat → ClassId} {S : sk_S} {wt : sk_F} {U : State} (g : JFrame) (mk : MethodId) (v : Array Value) (h : sk_PX dC dI a k S wt U) : sk_PX dC dI a k S wt (U.calling g mk v) := ⟨h.1, va_K.moved (u := U) (U := U.calling g mk v) (Vm.Alike.refl U.vm) h.2.1, sk_NW_same (s := U) rfl h.2.2⟩
theorem sk_blind (av : List Value) {dC : Nat → ClassId} {dI : Nat → Nat → Nat} {a : Nat → Nat} {k : Nat → ClassId} {S : sk_S} {wt : sk_F} : FrameBlind (va_Pc av (sk_PX dC dI a k S wt)) := fun _ _ g mk q => ⟨q.1, sk_PX_call g mk _ q.2⟩
theorem sk_blindD (av : List Value) {dC : Nat → ClassId} {dI : Nat → Nat → Nat} {a : Nat → Nat} {k : Nat → ClassId} {S : sk_S} {wt : sk_F} {P : Prop} : FrameBlind (va_Pc av (fun U => sk_PX dC dI a k S wt U ∧ P)) := fun _ _ g mk q => ⟨q.1, sk_PX_call g mk _ q.2.1, q.2.2⟩
theorem sk_inc (n : Nat) : nI n + Int32.ofInt 1 = nI (n + 1) := nI_1 n
/-- at a call: what the callee finds -/
theorem sk_at {dC : Nat → ClassId} {dI : Nat → Nat → Nat} {a : Nat → Nat} {k : Nat → ClassId} {S : sk_S} {wt : sk_F} {s : State} {H : Heap} (hP : va_P (dC, dI) vwCl (sk_wX a k S wt) H) (hK : va_K (dC, dI) vwCl (sk_tys k) s) (hN : sk_NW s) {U : State} (hU : U.heap = H) (hW : s.WarmedH U.vm) : sk_PX dC dI a k S wt U := ⟨by rw [hU]; exact hP, va_K.moved hW.alike hK, sk_NW_warm hW hN⟩
