abbrev wzO_init : List Cond := .code yO_init cO_init 1 none :: sk_W
abbrev rzO_init : Room := { frames := 1, cells := 64, slots := 960, locals := 20 }
set_option maxHeartbeats 4000000 in
set_option maxRecDepth 100000 in
theorem kO_init (l : Launch) (dC : Nat → ClassId) (dI : Nat → Nat → Nat) (k : Nat → ClassId) (h0 sz : Nat) : Met l yO_init wzO_init rzO_init (va_Pc [.ref h0] (fun U => U.heap.size = sz ∧ va_P (dC, dI) vwCl ([(h0, .inr (1, [.null, .null, .null, .null, .int 0]))]) U.heap ∧ va_K (dC, dI) vwCl (sk_tys k) U ∧ va_D (fun _ => True) ([(h0, .inr (1, [.null, .null, .null, .null, .int 0]))]) ∧ sk_AO U)) (va_Qv (fun _ : List Nat × (Nat → Nat) => True) (fun u U => va_P (dC, dI) vwCl ([(h0, .inr (1, [.ref (u.1.getD 0 0), .ref (u.1.getD 1 0), .ref (u.1.getD 2 0), .ref (u.1.getD 3 0), .int (nI 0)])), ((u.1.getD 0 0), .inl (k 0, 60, .inl (fun _ => 0))), ((u.1.getD 1 0), .inl (k 0, 60, .inl (fun _ => 0))), ((u.1.getD 2 0), .inl (k 0, 60, .inl (fun _ => 0))), ((u.1.getD 3 0), .inl (k 3, 60, .inr (.inr (.inr (.inr (fun i => if i < 60 then some (u.2 i) else none))))))] ++ sk_rows0 u.2 k) U.heap ∧ va_D (va_A [(h0, .inr (1, [.null, .null, .null, .null, .int 0]))] sz) ([(h0, .inr (1, [.ref (u.1.getD 0 0), .ref (u.1.getD 1 0), .ref (u.1.getD 2 0), .ref (u.1.getD 3 0), .int (nI 0)])), ((u.1.getD 0 0), .inl (k 0, 60, .inl (fun _ => 0))), ((u.1.getD 1 0), .inl (k 0, 60, .inl (fun _ => 0))), ((u.1.getD 2 0), .inl (k 0, 60, .inl (fun _ => 0))), ((u.1.getD 3 0), .inl (k 3, 60, .inr (.inr (.inr (.inr (fun i => if i < 60 then some (u.2 i) else none))))))] ++ sk_rows0 u.2 k)) (va_A [(h0, .inr (1, [.null, .null, .null, .null, .int 0]))] sz)) 64 960 (va_A [(h0, .inr (1, [.null, .null, .null, .null, .int 0]))] sz) := by
  refine Met.ofW (cc := cO_init) (maxL := 1) (ret := none) (by decide) rfl ?_
  intro p e s m args below meth c s₁ B hml hv
  obtain ⟨rfl, hsz, hP, hK, hD0, hAO⟩ := hv
  have hx := B.exec
  have hb := B.bytes
  have hr := B.returns
  have hts : ∀ w ∈ sk_W, w.before ([.ref h0] : List Value).toArray s = true := fun w h => atoms_spec (ws := wzO_init) B.pre w (List.mem_cons_of_mem _ h)
  have hown : s.vm.findClass RO = some m.cls := findClass_of_methodNamed B.named
  have hlocks := B.notSynchronized
  have hin : meth.name = "<init>" := (name_of_methodNamed B.named B.method).1
  subst hsz
  have hD := hD0.self (sz := s.heap.size)
  generalize hAe : va_A ([(h0, .inr (1, [.null, .null, .null, .null, .int 0]))]) s.heap.size = A at hD ⊢
  have hA : ∀ q : Nat, s.heap.size ≤ q → A q := fun q h => by rw [← hAe]; exact Or.inr h
  have hS : va_S A s.heap s.heap [] := va_S.rf
  have hl := lv_entry ([.ref h0]) (n := 1) (Nat.le_of_ble_eq_true rfl)
  rw [lg_entry_eq]
  generalize (lg_sl ([.ref h0]) ++ List.replicate (1 - (lg_sl ([.ref h0])).length) Slot.unset).toArray = ls at hl ⊢
  have hl : lv_has ls 1 [(0, .ref h0)] := hl
  refine lv_aload_n hx hb dO_init_0 rfl (lv_at hl 0 rfl) ?_
  refine W.objInit hx hb hown (hts _ wmO_3) (hts _ wiObj) (hts _ wcObj) rfl (by rw [hml]; exact hl.1) rfl dO_init_1 (Nat.le_of_ble_eq_true rfl) (Nat.le_of_ble_eq_true rfl) ?_
  refine W.eq (g2 := F0 m 4 ls []) rfl ?_
  refine lv_aload_n hx hb dO_init_4 rfl (lv_at hl 0 rfl) ?_
  refine lv_bipush (v := nI 60) hx hb dO_init_5 (by decide) ?_
  refine sk_newa (ty := .int) (atype := .int) (cA := k 0) (n := nI 60) (N' := 60) (a0 := (60, .inl (fun _ => 0))) hx hb (hts _ waI) rfl hK 0 rfl (fun _ h => by cases h) hP hD hS hA (sk_cell_i 60) (by decide) (by decide) (by decide) (Nat.le_of_ble_eq_true rfl) (Nat.le_of_ble_eq_true rfl) dO_init_7 (fun q7 H hP hD hS => ?_)
  have hP : va_P (dC, dI) vwCl ([(h0, .inr (1, [.null, .null, .null, .null, .int 0])), (q7, .inl (k 0, 60, .inl (fun _ => 0)))]) H := hP
  have hD : va_D A ([(h0, .inr (1, [.null, .null, .null, .null, .int 0])), (q7, .inl (k 0, 60, .inl (fun _ => 0)))]) := hD
  refine va_putF (D := (dC, dI)) (ci := 1) (v := .ref q7) (ty := .array .int) (C := RO) (T := TO) (N := 5) hx hb hts inO tyO tyO_ok nmO hown hK hP hD hS 0 rfl rfl 0 (by decide) (hts _ wfO_9) (fun _ h9 => h9) rfl hin rfl (by decide +kernel) rfl rfl (Nat.le_of_ble_eq_true rfl) dO_init_9 (fun H locs hP hD hS => ?_)
  have hP : va_P (dC, dI) vwCl ([(h0, .inr (1, [.ref q7, .null, .null, .null, .int 0])), (q7, .inl (k 0, 60, .inl (fun _ => 0)))]) H := hP
  have hD : va_D A ([(h0, .inr (1, [.ref q7, .null, .null, .null, .int 0])), (q7, .inl (k 0, 60, .inl (fun _ => 0)))]) := hD
  refine lv_aload_n hx hb dO_init_12 rfl (lv_at hl 0 rfl) ?_
  refine lv_bipush (v := nI 60) hx hb dO_init_13 (by decide) ?_
  refine sk_newa (ty := .int) (atype := .int) (cA := k 0) (n := nI 60) (N' := 60) (a0 := (60, .inl (fun _ => 0))) hx hb (hts _ waI) rfl hK 0 rfl (fun _ h => by cases h) hP hD hS hA (sk_cell_i 60) (by decide) (by decide) (by decide) (Nat.le_of_ble_eq_true rfl) (Nat.le_of_ble_eq_true rfl) dO_init_15 (fun q15 H hP hD hS => ?_)
  have hP : va_P (dC, dI) vwCl ([(h0, .inr (1, [.ref q7, .null, .null, .null, .int 0])), (q7, .inl (k 0, 60, .inl (fun _ => 0))), (q15, .inl (k 0, 60, .inl (fun _ => 0)))]) H := hP
  have hD : va_D A ([(h0, .inr (1, [.ref q7, .null, .null, .null, .int 0])), (q7, .inl (k 0, 60, .inl (fun _ => 0))), (q15, .inl (k 0, 60, .inl (fun _ => 0)))]) := hD
  refine va_putF (D := (dC, dI)) (ci := 1) (v := .ref q15) (ty := .array .int) (C := RO) (T := TO) (N := 5) hx hb hts inO tyO tyO_ok nmO hown hK hP hD hS 0 rfl rfl 1 (by decide) (hts _ wfO_15) (fun _ h9 => h9) rfl hin rfl (by decide +kernel) rfl rfl (Nat.le_of_ble_eq_true rfl) dO_init_17 (fun H locs hP hD hS => ?_)
  have hP : va_P (dC, dI) vwCl ([(h0, .inr (1, [.ref q7, .ref q15, .null, .null, .int 0])), (q7, .inl (k 0, 60, .inl (fun _ => 0))), (q15, .inl (k 0, 60, .inl (fun _ => 0)))]) H := hP
  have hD : va_D A ([(h0, .inr (1, [.ref q7, .ref q15, .null, .null, .int 0])), (q7, .inl (k 0, 60, .inl (fun _ => 0))), (q15, .inl (k 0, 60, .inl (fun _ => 0)))]) := hD
  refine lv_aload_n hx hb dO_init_20 rfl (lv_at hl 0 rfl) ?_
  refine lv_bipush (v := nI 60) hx hb dO_init_21 (by decide) ?_
  refine sk_newa (ty := .int) (atype := .int) (cA := k 0) (n := nI 60) (N' := 60) (a0 := (60, .inl (fun _ => 0))) hx hb (hts _ waI) rfl hK 0 rfl (fun _ h => by cases h) hP hD hS hA (sk_cell_i 60) (by decide) (by decide) (by decide) (Nat.le_of_ble_eq_true rfl) (Nat.le_of_ble_eq_true rfl) dO_init_23 (fun q23 H hP hD hS => ?_)
  have hP : va_P (dC, dI) vwCl ([(h0, .inr (1, [.ref q7, .ref q15, .null, .null, .int 0])), (q7, .inl (k 0, 60, .inl (fun _ => 0))), (q15, .inl (k 0, 60, .inl (fun _ => 0))), (q23, .inl (k 0, 60, .inl (fun _ => 0)))]) H := hP
  have hD : va_D A ([(h0, .inr (1, [.ref q7, .ref q15, .null, .null, .int 0])), (q7, .inl (k 0, 60, .inl (fun _ => 0))), (q15, .inl (k 0, 60, .inl (fun _ => 0))), (q23, .inl (k 0, 60, .inl (fun _ => 0)))]) := hD
  refine va_putF (D := (dC, dI)) (ci := 1) (v := .ref q23) (ty := .array .int) (C := RO) (T := TO) (N := 5) hx hb hts inO tyO tyO_ok nmO hown hK hP hD hS 0 rfl rfl 2 (by decide) (hts _ wfO_18) (fun _ h9 => h9) rfl hin rfl (by decide +kernel) rfl rfl (Nat.le_of_ble_eq_true rfl) dO_init_25 (fun H locs hP hD hS => ?_)
  have hP : va_P (dC, dI) vwCl ([(h0, .inr (1, [.ref q7, .ref q15, .ref q23, .null, .int 0])), (q7, .inl (k 0, 60, .inl (fun _ => 0))), (q15, .inl (k 0, 60, .inl (fun _ => 0))), (q23, .inl (k 0, 60, .inl (fun _ => 0)))]) H := hP
  have hD : va_D A ([(h0, .inr (1, [.ref q7, .ref q15, .ref q23, .null, .int 0])), (q7, .inl (k 0, 60, .inl (fun _ => 0))), (q15, .inl (k 0, 60, .inl (fun _ => 0))), (q23, .inl (k 0, 60, .inl (fun _ => 0)))]) := hD
  refine lv_aload_n hx hb dO_init_28 rfl (lv_at hl 0 rfl) ?_
  refine lv_bipush (v := nI 60) hx hb dO_init_29 (by decide) ?_
  refine lv_bipush (v := nI 12) hx hb dO_init_31 (by decide) ?_
  refine sk_mna (n := nI 60) (k9 := nI 12) (N' := 60) (K' := 12) hx hb hown (hts _ wcA) (sk_AO.use hAO) (hts _ waI) hK hP hD hS hA (by decide) (by decide) (by decide) (by decide) (by decide) (by decide) (by decide) (Nat.le_of_ble_eq_true rfl) (Nat.le_of_ble_eq_true rfl) (sk_inner 12) dO_init_33 (fun q33 r H hP hD hS => ?_)
  have hP : va_P (dC, dI) vwCl ([(h0, .inr (1, [.ref q7, .ref q15, .ref q23, .null, .int 0])), (q7, .inl (k 0, 60, .inl (fun _ => 0))), (q15, .inl (k 0, 60, .inl (fun _ => 0))), (q23, .inl (k 0, 60, .inl (fun _ => 0))), (q33, .inl (k 3, 60, .inr (.inr (.inr (.inr (fun i => if i < 60 then some (r i) else none))))))] ++ sk_rows0 r k) H := hP
  have hD : va_D A ([(h0, .inr (1, [.ref q7, .ref q15, .ref q23, .null, .int 0])), (q7, .inl (k 0, 60, .inl (fun _ => 0))), (q15, .inl (k 0, 60, .inl (fun _ => 0))), (q23, .inl (k 0, 60, .inl (fun _ => 0))), (q33, .inl (k 3, 60, .inr (.inr (.inr (.inr (fun i => if i < 60 then some (r i) else none))))))] ++ sk_rows0 r k) := hD
  refine va_putF (D := (dC, dI)) (ci := 1) (v := .ref q33) (ty := .array (.array .int)) (C := RO) (T := TO) (N := 5) hx hb hts inO tyO tyO_ok nmO hown hK hP hD hS 0 rfl rfl 3 (by decide) (hts _ wfO_23) (fun _ h9 => h9) rfl hin rfl (by decide +kernel) rfl rfl (Nat.le_of_ble_eq_true rfl) dO_init_37 (fun H locs hP hD hS => ?_)
  have hP : va_P (dC, dI) vwCl ([(h0, .inr (1, [.ref q7, .ref q15, .ref q23, .ref q33, .int 0])), (q7, .inl (k 0, 60, .inl (fun _ => 0))), (q15, .inl (k 0, 60, .inl (fun _ => 0))), (q23, .inl (k 0, 60, .inl (fun _ => 0))), (q33, .inl (k 3, 60, .inr (.inr (.inr (.inr (fun i => if i < 60 then some (r i) else none))))))] ++ sk_rows0 r k) H := hP
  have hD : va_D A ([(h0, .inr (1, [.ref q7, .ref q15, .ref q23, .ref q33, .int 0])), (q7, .inl (k 0, 60, .inl (fun _ => 0))), (q15, .inl (k 0, 60, .inl (fun _ => 0))), (q23, .inl (k 0, 60, .inl (fun _ => 0))), (q33, .inl (k 3, 60, .inr (.inr (.inr (.inr (fun i => if i < 60 then some (r i) else none))))))] ++ sk_rows0 r k) := hD
  refine lv_aload_n hx hb dO_init_40 rfl (lv_at hl 0 rfl) ?_
  refine lv_iconst (v := nI 0) hx hb dO_init_41 (by decide) ?_
  refine va_put (D := (dC, dI)) (ci := 1) (v := .int (nI 0)) (ty := .int) (C := RO) (T := TO) (N := 5) hx hb hts inO tyO tyO_ok nmO hown hK hP hD hS 0 rfl rfl 4 (by decide) (hts _ wfO_26) (fun _ h9 => h9) rfl (by decide +kernel) rfl rfl (Nat.le_of_ble_eq_true rfl) dO_init_42 (fun H locs hP hD hS => ?_)
  have hP : va_P (dC, dI) vwCl ([(h0, .inr (1, [.ref q7, .ref q15, .ref q23, .ref q33, .int (nI 0)])), (q7, .inl (k 0, 60, .inl (fun _ => 0))), (q15, .inl (k 0, 60, .inl (fun _ => 0))), (q23, .inl (k 0, 60, .inl (fun _ => 0))), (q33, .inl (k 3, 60, .inr (.inr (.inr (.inr (fun i => if i < 60 then some (r i) else none))))))] ++ sk_rows0 r k) H := hP
  have hD : va_D A ([(h0, .inr (1, [.ref q7, .ref q15, .ref q23, .ref q33, .int (nI 0)])), (q7, .inl (k 0, 60, .inl (fun _ => 0))), (q15, .inl (k 0, 60, .inl (fun _ => 0))), (q23, .inl (k 0, 60, .inl (fun _ => 0))), (q33, .inl (k 3, 60, .inr (.inr (.inr (.inr (fun i => if i < 60 then some (r i) else none))))))] ++ sk_rows0 r k) := hD
  exact W.vret hx hb hr (fun U9 ht hW => ⟨⟨([q7, q15, q23, q33], r), rfl, trivial, sk_endw ht hP hD⟩, hS.F ht⟩) hS.2.2 dO_init_45
