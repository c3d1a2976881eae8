/-! what the law's start gives -/
theorem sk_arrK {args : Array Value} {s : State} {ty : FieldType} (h : (Cond.arrayClass ty).before args s = true) : ∃ cA : ClassId, ArrOfT s cA ty ∧ s.vm.findClass ("[" ++ ty.toString) = some cA := by
  obtain ⟨cA, kA, comp, h1, h2, h3⟩ := Cond.arrayClass_spec h
  exact ⟨cA, fun n z => ⟨(fun q hq => by cases hq), kA, h2, comp, h3⟩, h1⟩
theorem sk_arrO {args : Array Value} {s : State} (h : (Cond.arrayOver (.array .int)).before args s = true) : ∃ cA : ClassId, ArrOfT s cA (.array .int) ∧ s.vm.findClass ("[" ++ (FieldType.array .int).toString) = some cA := by
  obtain ⟨comp, cA, kA, h0, h1, h2, h3⟩ := Cond.arrayOver_specA h
  exact ⟨cA, fun n z => ⟨(fun q hq => by cases hq), kA, h1, comp, h2⟩, h3⟩
theorem sk_inT {i : Nat} {w : Cond} (h : lw_tbl[i]? = some w) : w ∈ lw_tbl := List.mem_of_getElem? h
theorem sk_NLon : ∀ w ∈ sk_NL, w.onTables = true := by decide +kernel
theorem sk_NW0 {args : Array Value} {s : State} (hts : ∀ w ∈ lw_tbl, w.before args s = true) : sk_NW s := by
  intro k w hk
  have hm : w ∈ sk_NL := List.mem_of_getElem? hk
  have hon := sk_NLon w hm
  rw [sk_NLtbl] at hm
  obtain ⟨i, -, hi⟩ := List.mem_filterMap.mp hm
  exact va_Nw.of hon (hts w (sk_inT hi))
theorem sk_str0 {own tx : String} {i : Nat} {args : Array Value} {s : State} (h1 : (Cond.stringRef own i tx).before args s = true) (h2 : (Cond.exactly (.string own i) "java/lang/String").before args s = true) : ∃ a, vk_R own i tx a s := by
  obtain ⟨a, -, -, -, h3, -⟩ := Cond.exactly_spec h2
  exact ⟨a, vk_R.of h1 h3⟩
theorem sk_tb0 {X : String} {args : Array Value} {s : State} (k0 : (Cond.laysStatic "java/lang/Throwable" "UNASSIGNED_STACK" "[Ljava/lang/StackTraceElement;").before args s = true) (k1 : (Cond.laysStatic "java/lang/Throwable" "SUPPRESSED_SENTINEL" "Ljava/util/List;").before args s = true)
    (d1 : (Cond.declares ⟨"java/lang/RuntimeException", "<init>", "(Ljava/lang/String;)V"⟩).before args s = true) (d2 : (Cond.declares ⟨"java/lang/Exception", "<init>", "(Ljava/lang/String;)V"⟩).before args s = true) (d3 : (Cond.declares ⟨"java/lang/Throwable", "<init>", "(Ljava/lang/String;)V"⟩).before args s = true) (c1 : (Cond.castable X X).before args s = true)
    (r0 : (Cond.isRef (.static "java/lang/Throwable" "UNASSIGNED_STACK" "[Ljava/lang/StackTraceElement;")).before args s = true) (r1 : (Cond.isRef (.static "java/lang/Throwable" "SUPPRESSED_SENTINEL" "Ljava/util/List;")).before args s = true) : ∀ w ∈ sk_tb X, w.before #[] s = true := by
  have hal : s.vm.Alike s.vm := Vm.Alike.refl s.vm
  intro w hw
  simp only [sk_tb, List.mem_cons, List.not_mem_nil, or_false] at hw
  rcases hw with rfl | rfl | rfl | rfl | rfl | rfl | rfl | rfl
  · exact sk_laysS hal (fun _ _ => rfl) k0
  · exact sk_laysS hal (fun _ _ => rfl) k1
  · exact va_Nw.of rfl d1
  · exact va_Nw.of rfl d2
  · exact va_Nw.of rfl d3
  · exact va_Nw.of rfl c1
  · exact sk_refS hal (fun _ _ => rfl) k0 r0
  · exact sk_refS hal (fun _ _ => rfl) k1 r1
theorem sk_start0 {args : Array Value} {s : State} (hts : ∀ w ∈ lw_tbl, w.before args s = true) (hgv : (Jvm.Cond.and given_1 narrow_1).before args s = true) : sk_TW0 s := by
  have hs := flat_of_before _ hgv
  have k0 := hts _ (sk_inT (i := 368) (w := .laysStatic "java/lang/Throwable" "UNASSIGNED_STACK" "[Ljava/lang/StackTraceElement;") (by decide +kernel))
  have k1 := hts _ (sk_inT (i := 370) (w := .laysStatic "java/lang/Throwable" "SUPPRESSED_SENTINEL" "Ljava/util/List;") (by decide +kernel))
  have d1 := hts _ (sk_inT (i := 345) (w := .declares ⟨"java/lang/RuntimeException", "<init>", "(Ljava/lang/String;)V"⟩) (by decide +kernel))
  have d2 := hts _ (sk_inT (i := 347) (w := .declares ⟨"java/lang/Exception", "<init>", "(Ljava/lang/String;)V"⟩) (by decide +kernel))
  have d3 := hts _ (sk_inT (i := 349) (w := .declares ⟨"java/lang/Throwable", "<init>", "(Ljava/lang/String;)V"⟩) (by decide +kernel))
  have cxIA := hts _ (sk_inT (i := 343) (w := .castable xIA xIA) (by decide +kernel))
  have cxIS := hts _ (sk_inT (i := 411) (w := .castable xIS xIS) (by decide +kernel))
  have cxIO := hts _ (sk_inT (i := 441) (w := .castable xIO xIO) (by decide +kernel))
  have r0 : (Cond.isRef (.static "java/lang/Throwable" "UNASSIGNED_STACK" "[Ljava/lang/StackTraceElement;")).before args s = true := hs _ (by decide +kernel)
  have r1 : (Cond.isRef (.static "java/lang/Throwable" "SUPPRESSED_SENTINEL" "Ljava/util/List;")).before args s = true := hs _ (by decide +kernel)
  obtain ⟨x40, hx40⟩ := sk_str0 (own := RK) (i := 40) (tx := "no such prototype") (hts _ (sk_inT (i := 382) (by decide +kernel))) (hs _ (by decide +kernel))
  obtain ⟨x51, hx51⟩ := sk_str0 (own := RK) (i := 51) (tx := "no room for an object") (hts _ (sk_inT (i := 418) (by decide +kernel))) (hs _ (by decide +kernel))
  obtain ⟨x58, hx58⟩ := sk_str0 (own := RK) (i := 58) (tx := "no room for a shape") (hts _ (sk_inT (i := 425) (by decide +kernel))) (hs _ (by decide +kernel))
  obtain ⟨x103, hx103⟩ := sk_str0 (own := RK) (i := 103) (tx := "no such object") (hts _ (sk_inT (i := 438) (by decide +kernel))) (hs _ (by decide +kernel))
  obtain ⟨x113, hx113⟩ := sk_str0 (own := RK) (i := 113) (tx := "the property is nowhere") (hts _ (sk_inT (i := 448) (by decide +kernel))) (hs _ (by decide +kernel))
  obtain ⟨x129, hx129⟩ := sk_str0 (own := RK) (i := 129) (tx := "no such finding") (hts _ (sk_inT (i := 462) (by decide +kernel))) (hs _ (by decide +kernel))
  obtain ⟨x134, hx134⟩ := sk_str0 (own := RK) (i := 134) (tx := "the finding does not hold for the object") (hts _ (sk_inT (i := 464) (by decide +kernel))) (hs _ (by decide +kernel))
  refine ⟨fun w hw => ?_, ⟨fun n => if n = 40 then x40 else if n = 51 then x51 else if n = 58 then x58 else if n = 103 then x103 else if n = 113 then x113 else if n = 129 then x129 else if n = 134 then x134 else 0, hx40, hx51, hx58, hx103, hx113, hx129, hx134⟩, va_Nc.of (args := args) (hs _ (by decide +kernel)), va_Nc.of (args := args) (hs _ (by decide +kernel)), va_Nc.of (args := args) (hs _ (by decide +kernel))⟩
  rcases List.mem_append.mp hw with h | h
  · exact sk_tb0 k0 k1 d1 d2 d3 cxIA r0 r1 w h
  · rcases List.mem_append.mp h with h | h
    · exact sk_tb0 k0 k1 d1 d2 d3 cxIS r0 r1 w h
    · exact sk_tb0 k0 k1 d1 d2 d3 cxIO r0 r1 w h
