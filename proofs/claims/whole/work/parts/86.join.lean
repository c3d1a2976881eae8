/-! worlds side by side: a callee that has one of them -/
def sk_ad (W : va_W) : Nat → Prop := fun q => ∃ (j : Nat) (e : va_E), W[j]? = some (q, e)
theorem sk_adin {W : va_W} {j : Nat} {x : Nat × va_E} (h : W[j]? = some x) : sk_ad W x.1 := ⟨j, x.2, h⟩
theorem sk_Dself {A : Nat → Prop} {W : va_W} (h : va_D A W) : va_D (sk_ad W) W := ⟨h.1, fun _ _ hk => sk_adin hk⟩
theorem sk_getL {X Y : va_W} {k : Nat} {x : Nat × va_E} (h : X[k]? = some x) : (X ++ Y)[k]? = some x := by
  rw [List.getElem?_append_left (List.getElem?_eq_some_iff.mp h).1]; exact h
theorem sk_getR {X Y : va_W} {k : Nat} {x : Nat × va_E} (h : Y[k]? = some x) : (X ++ Y)[X.length + k]? = some x := by
  rw [List.getElem?_append_right (Nat.le_add_right _ _), Nat.add_sub_cancel_left]; exact h
theorem sk_PL1 {D : va_G} {cl : List vw_C} {X Y : va_W} {H : Heap} (h : va_P D cl (X ++ Y) H) : va_P D cl X H := fun k q hq => h k q (sk_getL hq)
theorem sk_PR1 {D : va_G} {cl : List vw_C} {X Y : va_W} {H : Heap} (h : va_P D cl (X ++ Y) H) : va_P D cl Y H := fun k q hq => h _ q (sk_getR hq)
theorem sk_DL1 {A : Nat → Prop} {X Y : va_W} (h : va_D A (X ++ Y)) : va_D A X := ⟨fun i j p q hi hj e => h.1 i j p q (sk_getL hi) (sk_getL hj) e, fun k q hq => h.2 k q (sk_getL hq)⟩
theorem sk_DR1 {A : Nat → Prop} {X Y : va_W} (h : va_D A (X ++ Y)) : va_D A Y := ⟨fun i j p q hi hj e => Nat.add_left_cancel (h.1 _ _ p q (sk_getR hi) (sk_getR hj) e), fun k q hq => h.2 _ q (sk_getR hq)⟩
theorem sk_ap {A : Nat → Prop} {X Y : va_W} (h : va_D A (X ++ Y)) {i j : Nat} {p q : Nat × va_E} (hi : X[i]? = some p) (hj : Y[j]? = some q) : p.1 ≠ q.1 := fun e => by
  have h1 := h.1 _ _ p q (sk_getL hi) (sk_getR hj) e
  have h2 := (List.getElem?_eq_some_iff.mp hi).1
  omega
theorem sk_apL {A : Nat → Prop} {X Y : va_W} (h : va_D A (X ++ Y)) {i : Nat} {p : Nat × va_E} (hi : X[i]? = some p) : ¬ sk_ad Y p.1 := fun ⟨_, _, hj⟩ => sk_ap h hi hj rfl
theorem sk_apR {A : Nat → Prop} {X Y : va_W} (h : va_D A (X ++ Y)) {j : Nat} {p : Nat × va_E} (hj : Y[j]? = some p) : ¬ sk_ad X p.1 := fun ⟨_, _, hi⟩ => sk_ap h hi hj rfl
theorem sk_joinR {D : va_G} {cl : List vw_C} {X Y Z : va_W} {H H1 : Heap} {A : Nat → Prop} (hP : va_P D cl (X ++ Y) H) (hD : va_D A (X ++ Y)) (hP1 : va_P D cl Z H1) (hD1 : va_D (sk_ad Y) Z) (hk : ∀ q : Nat, q < H.size → ¬ sk_ad Y q → H1[q]? = H[q]?) : va_P D cl (X ++ Z) H1 ∧ va_D A (X ++ Z) := by
  have hin : ∀ q : Nat, sk_ad Y q → A q := fun q ⟨j, e, hj⟩ => hD.2 _ (q, e) (sk_getR hj)
  refine ⟨va_P.app (fun k q hq => (hP k q (sk_getL hq)).kept (hk q.1 ((hP k q (sk_getL hq)).lt) (sk_apL hD hq))) hP1, va_D.app (sk_DL1 hD) (hD1.weaken (fun k q _ h => hin q.1 h)) (fun i j p q hi hj e => sk_apL hD hi (by rw [e]; exact hD1.2 j q hj))⟩
theorem sk_joinL {D : va_G} {cl : List vw_C} {X Y Z : va_W} {H H1 : Heap} {A : Nat → Prop} (hP : va_P D cl (X ++ Y) H) (hD : va_D A (X ++ Y)) (hP1 : va_P D cl Z H1) (hD1 : va_D (sk_ad X) Z) (hk : ∀ q : Nat, q < H.size → ¬ sk_ad X q → H1[q]? = H[q]?) : va_P D cl (Z ++ Y) H1 ∧ va_D A (Z ++ Y) := by
  have hin : ∀ q : Nat, sk_ad X q → A q := fun q ⟨j, e, hj⟩ => hD.2 _ (q, e) (sk_getL hj)
  refine ⟨va_P.app hP1 (fun k q hq => (hP _ q (sk_getR hq)).kept (hk q.1 ((hP _ q (sk_getR hq)).lt) (sk_apR hD hq))), va_D.app (hD1.weaken (fun k q _ h => hin q.1 h)) (sk_DR1 hD) (fun i j p q hi hj e => sk_apR hD hj (by rw [← e]; exact hD1.2 i p hi))⟩
theorem sk_joinM {D : va_G} {cl : List vw_C} {X Y Z V : va_W} {H H1 : Heap} {A : Nat → Prop} (hP : va_P D cl (X ++ (Y ++ Z)) H) (hD : va_D A (X ++ (Y ++ Z))) (hP1 : va_P D cl V H1) (hD1 : va_D (sk_ad Y) V) (hk : ∀ q : Nat, q < H.size → ¬ sk_ad Y q → H1[q]? = H[q]?) : va_P D cl (X ++ (V ++ Z)) H1 ∧ va_D A (X ++ (V ++ Z)) := by
  obtain ⟨h1, h2⟩ := sk_joinL (sk_PR1 hP) (sk_DR1 hD) hP1 hD1 hk
  have nY : ∀ (k : Nat) (q : Nat × va_E), X[k]? = some q → ¬ sk_ad Y q.1 := fun k q hq ⟨j, e, hj⟩ => sk_apL hD hq ⟨j, e, sk_getL hj⟩
  refine ⟨va_P.app (fun k q hq => (hP k q (sk_getL hq)).kept (hk q.1 ((hP k q (sk_getL hq)).lt) (nY k q hq))) h1, va_D.app (sk_DL1 hD) h2 (fun i j p q hi hj e => ?_)⟩
  by_cases hl : j < V.length
  · rw [List.getElem?_append_left hl] at hj
    exact nY i p hi (by rw [e]; exact hD1.2 j q hj)
  · rw [List.getElem?_append_right (by omega)] at hj
    exact sk_ap hD hi (sk_getR (X := Y) hj) e
/-- what is kept of one world while nothing of it is touched -/
theorem sk_adA {A : Nat → Prop} {X Y : va_W} (h : va_D A (X ++ Y)) : ∀ q : Nat, sk_ad Y q → A q := fun q ⟨_, e, hj⟩ => h.2 _ (q, e) (sk_getR hj)
theorem sk_adB {A : Nat → Prop} {X Y : va_W} (h : va_D A (X ++ Y)) : ∀ q : Nat, sk_ad X q → A q := fun q ⟨_, e, hj⟩ => h.2 _ (q, e) (sk_getL hj)
/-! the law's helpers: the class's world behind the row 'out' -/
def sk_wO (oa : Nat) (k : Nat → ClassId) (fo : Nat → Int64) : Nat × va_E := (oa, .inl (k 2, 1, .inr (.inl fo)))
def sk_PL (s0 : State) (dC : Nat → ClassId) (dI : Nat → Nat → Nat) (a : Nat → Nat) (k : Nat → ClassId) (oa : Nat) (fo : Nat → Int64) (S : sk_S) (wt : sk_F) (A : Nat → Prop) (U : State) : Prop :=
  va_P (dC, dI) vwCl ([sk_wO oa k fo] ++ sk_wX a k S wt) U.heap ∧ va_K (dC, dI) vwCl (sk_tys k) U ∧ sk_NW U ∧ va_D A ([sk_wO oa k fo] ++ sk_wX a k S wt) ∧ sk_TW s0 U
theorem sk_blindL (av : List Value) {s0 : State} {dC : Nat → ClassId} {dI : Nat → Nat → Nat} {a : Nat → Nat} {k : Nat → ClassId} {oa : Nat} {fo : Nat → Int64} {S : sk_S} {wt : sk_F} {A : Nat → Prop} : FrameBlind (va_Pc av (sk_PL s0 dC dI a k oa fo S wt A)) := fun v U g mk q => ⟨q.1, q.2.1, va_K.moved (u := U) (U := U.calling g mk v) (Vm.Alike.refl U.vm) q.2.2.1, sk_NW_same (s := U) rfl q.2.2.2.1, q.2.2.2.2.1, sk_TW_call g mk v q.2.2.2.2.2⟩
theorem sk_object_or (S : sk_S) (x : Int32) : (sk_object S x).1 = 0 ∨ ((sk_object S x).1 = 1 ∧ (sk_object S x).2.2 = S) ∨ ((sk_object S x).1 = 2 ∧ (sk_object S x).2.2 = S) := by
  obtain ⟨b, t, f⟩ := S
  by_cases h : sk_canP b.1 x = true
  · by_cases h2 : 60 ≤ b.1
    · rw [sk_object_2 h h2]; exact Or.inr (Or.inr ⟨rfl, rfl⟩)
    · cases hr : sk_reach t x [] with
      | none => rw [sk_object_3 h h2 hr]; exact Or.inr (Or.inr ⟨rfl, rfl⟩)
      | some z => obtain ⟨u, r⟩ := z; rw [sk_object_4 h h2 hr]; exact Or.inl rfl
  · rw [sk_object_1 (by revert h; cases sk_canP b.1 x <;> simp)]; exact Or.inr (Or.inl ⟨rfl, rfl⟩)
theorem sk_read_or (S : sk_S) (x y : Int32) : (sk_read S x y).1 = 0 ∨ (sk_read S x y).1 = 1 ∨ (sk_read S x y).1 = 2 := by
  unfold sk_read sk_readN
  split
  · split
    · exact Or.inr (Or.inr rfl)
    · exact Or.inl rfl
  · exact Or.inr (Or.inl rfl)
theorem sk_get_or (S : sk_S) (x y : Int32) : (sk_get S x y).1 = 0 ∨ (sk_get S x y).1 = 1 ∨ (sk_get S x y).1 = 2 ∨ (sk_get S x y).1 = 3 := by
  unfold sk_get
  split
  · exact Or.inr (Or.inl rfl)
  · split
    · exact Or.inr (Or.inr (Or.inl rfl))
    · split
      · exact Or.inr (Or.inr (Or.inr rfl))
      · exact Or.inl rfl
theorem sk_tab2 {l : List ExceptionTableEntry} {q1 q2 : Nat × Nat × Nat × Nat} (h : l.map (fun h => (h.startPc, h.endPc, h.handlerPc, h.catchType)) = [q1, q2]) : ∃ x1 x2, l = [x1, x2] ∧ (x1.startPc, x1.endPc, x1.handlerPc, x1.catchType) = q1 ∧ (x2.startPc, x2.endPc, x2.handlerPc, x2.catchType) = q2 := by
  match l, h with
  | [x1, x2], h => simp only [List.map_cons, List.map_nil, List.cons.injEq, and_true] at h; exact ⟨x1, x2, rfl, h.1, h.2⟩
theorem sk_tab3 {l : List ExceptionTableEntry} {q1 q2 q3 : Nat × Nat × Nat × Nat} (h : l.map (fun h => (h.startPc, h.endPc, h.handlerPc, h.catchType)) = [q1, q2, q3]) : ∃ x1 x2 x3, l = [x1, x2, x3] ∧ (x1.startPc, x1.endPc, x1.handlerPc, x1.catchType) = q1 ∧ (x2.startPc, x2.endPc, x2.handlerPc, x2.catchType) = q2 ∧ (x3.startPc, x3.endPc, x3.handlerPc, x3.catchType) = q3 := by
  match l, h with
  | [x1, x2, x3], h => simp only [List.map_cons, List.map_nil, List.cons.injEq, and_true] at h; exact ⟨x1, x2, x3, rfl, h.1, h.2.1, h.2.2⟩
theorem wcL_object : Cond.codeWith yL_object cL_object 4 (some .int) [(0, 9, 12, 13), (0, 9, 15, 15)] ∈ sk_W := sk_mem 334 (by decide +kernel) (by decide +kernel)
theorem wcL_read : Cond.codeWith yL_read cL_read 5 (some .int) [(0, 10, 13, 13), (0, 10, 17, 21)] ∈ sk_W := sk_mem 432 (by decide +kernel) (by decide +kernel)
theorem wcL_get : Cond.codeWith yL_get cL_get 5 (some .int) [(0, 10, 13, 13), (0, 10, 17, 15), (0, 10, 21, 21)] ∈ sk_W := sk_mem 457 (by decide +kernel) (by decide +kernel)
