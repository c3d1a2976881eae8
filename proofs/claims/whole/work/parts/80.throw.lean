/-! throwing and catching, over the library: words, 'throw new E("..")', a callee that throws, its catching -/
def xIA : String := "java/lang/IllegalArgumentException"
def xIS : String := "java/lang/IllegalStateException"
def xIO : String := "java/lang/IndexOutOfBoundsException"
def sk_RE : List String := ["java/lang/RuntimeException", "java/lang/Exception"]
def sk_oa (ic : Nat) (X : String) : List Cond := Jvm.Bundle.ownAtoms RK ic X sk_RE
/-- the words of a throw that the method's own list doesn't bear -/
def sk_tb (X : String) : List Cond := [.laysStatic "java/lang/Throwable" "UNASSIGNED_STACK" "[Ljava/lang/StackTraceElement;", .laysStatic "java/lang/Throwable" "SUPPRESSED_SENTINEL" "Ljava/util/List;",
  .declares ⟨"java/lang/RuntimeException", "<init>", "(Ljava/lang/String;)V"⟩, .declares ⟨"java/lang/Exception", "<init>", "(Ljava/lang/String;)V"⟩, .declares ⟨"java/lang/Throwable", "<init>", "(Ljava/lang/String;)V"⟩, .castable X X,
  .isRef (.static "java/lang/Throwable" "UNASSIGNED_STACK" "[Ljava/lang/StackTraceElement;"), .isRef (.static "java/lang/Throwable" "SUPPRESSED_SENTINEL" "Ljava/util/List;")]
theorem sk_inW {L : List Cond} {ix : List Nat} (h : L.filter goodWord = ix.filterMap (fun i => lw_tbl[i]?)) {w : Cond} (hw : w ∈ L) (hg : goodWord w = true) : w ∈ sk_W := by
  have h1 : w ∈ L.filter goodWord := List.mem_filter.mpr ⟨hw, hg⟩
  rw [h] at h1
  obtain ⟨i, -, hi⟩ := List.mem_filterMap.mp h1
  exact List.mem_filter.mpr ⟨List.mem_of_getElem? hi, hg⟩
theorem sk_oaIA : (sk_oa 42 xIA).filter goodWord = [45, 363, 372, 376, 379, 381, 364, 365, 59, 60, 366, 371, 377, 397, 353, 398, 355, 399, 357, 367, 369, 359, 393, 394, 396, 359, 384, 385, 386, 387, 387, 388, 389, 390, 390, 391, 392, 393, 383, 342, 350, 351, 352, 354, 356, 358, 362, 361, 360].filterMap (fun i => lw_tbl[i]?) := by decide +kernel
theorem sk_oaIS : (sk_oa 53 xIS).filter goodWord = [45, 363, 372, 376, 379, 381, 364, 365, 59, 60, 366, 371, 377, 397, 353, 398, 355, 399, 357, 367, 369, 359, 393, 394, 396, 359, 420, 421, 422, 387, 387, 388, 389, 390, 390, 391, 392, 393, 419, 410, 412, 374, 413, 414, 415, 416, 362, 361, 417].filterMap (fun i => lw_tbl[i]?) := by decide +kernel
theorem sk_oaIO : (sk_oa 115 xIO).filter goodWord = [45, 363, 372, 376, 379, 381, 364, 365, 59, 60, 366, 371, 377, 397, 353, 398, 355, 399, 357, 367, 369, 359, 393, 394, 396, 359, 450, 451, 452, 387, 387, 388, 389, 390, 390, 391, 392, 393, 449, 440, 442, 375, 443, 444, 445, 446, 362, 361, 447].filterMap (fun i => lw_tbl[i]?) := by decide +kernel
theorem sk_obIA : (sk_oa 42 xIA).filter (fun w => !goodWord w) = sk_tb xIA := by decide +kernel
theorem sk_obIS : (sk_oa 53 xIS).filter (fun w => !goodWord w) = sk_tb xIS := by decide +kernel
theorem sk_obIO : (sk_oa 115 xIO).filter (fun w => !goodWord w) = sk_tb xIO := by decide +kernel
/-- the two kinds joined -/
theorem sk_ow {L B : List Cond} {ix : List Nat} {args : Array Value} {U : State} (h1 : L.filter goodWord = ix.filterMap (fun i => lw_tbl[i]?)) (h2 : L.filter (fun w => !goodWord w) = B) (hts : ∀ w ∈ sk_W, w.before args U = true) (hB : ∀ w ∈ B, w.before args U = true) : ∀ w ∈ L, w.before args U = true := by
  intro w hw
  cases hg : goodWord w with
  | true => exact hts w (sk_inW h1 hw hg)
  | false => exact hB w (by rw [← h2]; exact List.mem_filter.mpr ⟨hw, by rw [hg]; rfl⟩)
/-! words of statics, at a warmer state whose old cells are as they were -/
theorem sk_laysS {args args' : Array Value} {s U : State} {C n d : String} (hal : s.vm.Alike U.vm) (hh : ∀ q : Nat, q < s.heap.size → U.heap[q]? = s.heap[q]?) (h : (Cond.laysStatic C n d).before args s = true) : (Cond.laysStatic C n d).before args' U = true := by
  obtain ⟨c, k, i, f, a, cell, hc, hi, hst, ha, hcell, hs, hcls, hlt, hty⟩ := Cond.laysStatic_spec h
  obtain ⟨k', hi', he⟩ := State.fieldFound?_setVm hal hi
  have hi2 : U.fieldFound? C n d = some (c, k', i, f) := hi'
  have hc2 : U.vm.findClass C = some c := by rw [hal.findClass]; exact hc
  have ha2 : k'.statics = some a := by rw [he]; exact ha
  have hcell2 : U.heap[a]? = some cell := by rw [hh a (Array.getElem?_eq_some_iff.mp hcell).1]; exact hcell
  have hty2 : k'.staticTypes[f.slot]? = some f.type := by rw [he]; exact hty
  simp [Cond.before, Cond.holds, Cond.value, hc2, hi2, ha2, hcell2, hst, hs, hcls, hlt, hty2]
theorem sk_refS {args args' : Array Value} {s U : State} {C n d : String} (hal : s.vm.Alike U.vm) (hh : ∀ q : Nat, q < s.heap.size → U.heap[q]? = s.heap[q]?) (hl : (Cond.laysStatic C n d).before args s = true) (h : (Cond.isRef (.static C n d)).before args s = true) : (Cond.isRef (.static C n d)).before args' U = true := by
  obtain ⟨c, k, i, f, a, cell, hc, hi, hst, ha, hcell, hs, hcls, hlt, hty⟩ := Cond.laysStatic_spec hl
  obtain ⟨k', hi', he⟩ := State.fieldFound?_setVm hal hi
  have hi2 : U.fieldFound? C n d = some (c, k', i, f) := hi'
  have ha2 : k'.statics = some a := by rw [he]; exact ha
  have hcell2 : U.heap[a]? = some cell := by rw [hh a (Array.getElem?_eq_some_iff.mp hcell).1]; exact hcell
  have e1 : (Term.static C n d).eval args s none [] s = cell.slots[f.slot]? := by
    simp [Term.eval, State.fieldNamed?, hi, hst, ha, hcell, hs]
  have e2 : (Term.static C n d).eval args' U none [] U = cell.slots[f.slot]? := by
    simp [Term.eval, State.fieldNamed?, hi2, hst, ha2, hcell2, hs]
  simp only [Cond.before, Cond.holds, Cond.value, e1] at h
  simp only [Cond.before, Cond.holds, Cond.value, e2]
  exact h
/-- what the law's start says of throwing -/
def sk_TW0 (s0 : State) : Prop := (∀ w ∈ sk_tb xIA ++ (sk_tb xIS ++ sk_tb xIO), w.before #[] s0 = true) ∧
  (∃ x : Nat → Nat, vk_R RK 40 "no such prototype" (x 40) s0 ∧ vk_R RK 51 "no room for an object" (x 51) s0 ∧ vk_R RK 58 "no room for a shape" (x 58) s0 ∧ vk_R RK 103 "no such object" (x 103) s0 ∧ vk_R RK 113 "the property is nowhere" (x 113) s0 ∧ vk_R RK 129 "no such finding" (x 129) s0 ∧ vk_R RK 134 "the finding does not hold for the object" (x 134) s0) ∧
  va_Nc xIS xIA s0 ∧ va_Nc xIO xIA s0 ∧ va_Nc xIO xIS s0
/-- .. and where a state stands to it -/
def sk_TW (s0 U : State) : Prop := s0.WarmedH U.vm ∧ ∀ q : Nat, q < s0.heap.size → U.heap[q]? = s0.heap[q]?
theorem sk_tbw {s0 U : State} {args : Array Value} {X : String} (h0 : ∀ w ∈ sk_tb X, w.before #[] s0 = true) (h : sk_TW s0 U) : ∀ w ∈ sk_tb X, w.before args U = true := by
  have hal := h.1.alike
  have k0 := h0 _ (List.mem_cons_self)
  have k1 := h0 _ (List.mem_cons_of_mem _ List.mem_cons_self)
  have dcl : ∀ x : MethodName, (Cond.declares x).before #[] s0 = true → (Cond.declares x).before args U = true := fun x q => va_Nw.use rfl (va_Nw.warmD h.1 q)
  have cst : ∀ A B : String, (Cond.castable A B).before #[] s0 = true → (Cond.castable A B).before args U = true := fun A B q => va_Nw.use rfl (va_Nw.warmC h.1 q)
  intro w hw
  have hw0 := hw
  simp only [sk_tb, List.mem_cons, List.not_mem_nil, or_false] at hw
  rcases hw with rfl | rfl | rfl | rfl | rfl | rfl | rfl | rfl
  · exact sk_laysS hal h.2 k0
  · exact sk_laysS hal h.2 k1
  · exact dcl _ (h0 _ hw0)
  · exact dcl _ (h0 _ hw0)
  · exact dcl _ (h0 _ hw0)
  · exact cst _ _ (h0 _ hw0)
  · exact sk_refS hal h.2 k0 (h0 _ hw0)
  · exact sk_refS hal h.2 k1 (h0 _ hw0)
theorem sk_hIA {s0 U : State} {args : Array Value} (h0 : sk_TW0 s0) (h : sk_TW s0 U) (hts : ∀ w ∈ sk_W, w.before args U = true) : ∀ w ∈ Jvm.Bundle.ownAtoms RK 42 xIA sk_RE, w.before args U = true := sk_ow sk_oaIA sk_obIA hts (sk_tbw (fun w q => h0.1 w (List.mem_append_left _ q)) h)
theorem sk_hIS {s0 U : State} {args : Array Value} (h0 : sk_TW0 s0) (h : sk_TW s0 U) (hts : ∀ w ∈ sk_W, w.before args U = true) : ∀ w ∈ Jvm.Bundle.ownAtoms RK 53 xIS sk_RE, w.before args U = true := sk_ow sk_oaIS sk_obIS hts (sk_tbw (fun w q => h0.1 w (List.mem_append_right _ (List.mem_append_left _ q))) h)
theorem sk_hIO {s0 U : State} {args : Array Value} (h0 : sk_TW0 s0) (h : sk_TW s0 U) (hts : ∀ w ∈ sk_W, w.before args U = true) : ∀ w ∈ Jvm.Bundle.ownAtoms RK 115 xIO sk_RE, w.before args U = true := sk_ow sk_oaIO sk_obIO hts (sk_tbw (fun w q => h0.1 w (List.mem_append_right _ (List.mem_append_right _ q))) h)
theorem sk_TW_call {s0 U : State} (g : JFrame) (mk : MethodId) (v : Array Value) (h : sk_TW s0 U) : sk_TW s0 (U.calling g mk v) := ⟨h.1, h.2⟩
theorem sk_TW_at {s0 s U : State} {H : Heap} (h : s0.WarmedH s.vm) (hH : ∀ q : Nat, q < s0.heap.size → H[q]? = s0.heap[q]?) (hU : U.heap = H) (hW : s.WarmedH U.vm) : sk_TW s0 U := ⟨State.WarmedH.trans h hW, by rw [hU]; exact hH⟩
