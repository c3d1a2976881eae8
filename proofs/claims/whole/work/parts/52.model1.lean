abbrev wzM_thrown : List Cond := .code yM_thrown cM_thrown 1 (some .int) :: sk_W
abbrev rzM_thrown : Room := { frames := 0, cells := 0, slots := 0, locals := 0 }
set_option maxHeartbeats 4000000 in
set_option maxRecDepth 100000 in
theorem kM_thrown (l : Launch) (dC : Nat → ClassId) (dI : Nat → Nat → Nat) (a : Nat → Nat) (k : Nat → ClassId) (b : sk_Ob) (t : sk_Tr) (f : sk_Fi) (ex : sk_Ex) (lf : sk_F) (th : Int32)   : Met l yM_thrown wzM_thrown rzM_thrown (va_Pc [.ref (a 0)] (sk_PM dC dI a k (b, t, f) ex lf th)) (va_Qi (fun r (_ : Unit) => r = th) (fun _ _ => True) (fun _ => False)) 0 0 (fun _ => False) := by
  refine Met.ofW (cc := cM_thrown) (maxL := 1) (ret := (some .int)) (by decide) rfl ?_
  intro p e s m args below meth c s₁ B hml hv
  obtain ⟨rfl, hP, hK⟩ := hv
  have hx := B.exec
  have hb := B.bytes
  have hr := B.returns
  have hts : ∀ w ∈ sk_W, w.before ([.ref (a 0)] : List Value).toArray s = true := fun w h => atoms_spec (ws := wzM_thrown) B.pre w (List.mem_cons_of_mem _ h)
  have hown : s.vm.findClass RM = some m.cls := findClass_of_methodNamed B.named
  have hlocks := B.notSynchronized
  have hS : va_S (fun _ => False) s.heap s.heap [] := va_S.rf
  have hP : va_P (dC, dI) vwCl (sk_wMR a k th (nI b.1) b.2.2.1 b.2.2.2.1 ex.1 (nI t.1) t.2.1 t.2.2.1 t.2.2.2.2 ex.2.1 (nI f.1) f.2.1 f.2.2.1 ex.2.2.1 f.2.2.2.1 f.2.2.2.2.1 ex.2.2.2.1 ex.2.2.2.2.1 ex.2.2.2.2.2 lf) s.heap := hP
  have hl := lv_entry ([.ref (a 0)]) (n := 1) (Nat.le_of_ble_eq_true rfl)
  rw [lg_entry_eq]
  generalize (lg_sl ([.ref (a 0)]) ++ List.replicate (1 - (lg_sl ([.ref (a 0)])).length) Slot.unset).toArray = ls at hl ⊢
  have hl : lv_has ls 1 [(0, .ref (a 0))] := hl
  refine lv_aload_n hx hb dM_thrown_0 rfl (lv_at hl 0 rfl) ?_
  refine va_get (D := (dC, dI)) (ci := 4) (v := .int th) (C := RM) (T := TM) (N := 20) hx hb hts inM hown hK hP 0 rfl rfl 0 (by decide) (hts _ wfM_62) (fun _ h9 => h9) rfl dM_thrown_1 ?_
  exact W.iret (v := th) hx hb hr (fun U9 ht hW => ⟨⟨th, (), rfl, rfl, trivial⟩, hS.F ht⟩) hS.2.2 dM_thrown_4
abbrev wzM_isObject : List Cond := .code yM_isObject cM_isObject 2 (some .boolean) :: sk_W
abbrev rzM_isObject : Room := { frames := 0, cells := 0, slots := 0, locals := 0 }
set_option maxHeartbeats 4000000 in
set_option maxRecDepth 100000 in
theorem kM_isObject (l : Launch) (dC : Nat → ClassId) (dI : Nat → Nat → Nat) (a : Nat → Nat) (k : Nat → ClassId) (b : sk_Ob) (t : sk_Tr) (f : sk_Fi) (ex : sk_Ex) (lf : sk_F) (th : Int32) (x : Int32)  : Met l yM_isObject wzM_isObject rzM_isObject (va_Pc [.ref (a 0), .int x] (sk_PM dC dI a k (b, t, f) ex lf th)) (va_Qi (fun r (_ : Unit) => r = sk_bI (sk_hasB b.1 x)) (fun _ _ => True) (fun _ => False)) 0 0 (fun _ => False) := by
  refine Met.ofW (cc := cM_isObject) (maxL := 2) (ret := (some .boolean)) (by decide) rfl ?_
  intro p e s m args below meth c s₁ B hml hv
  obtain ⟨rfl, hP, hK⟩ := hv
  have hx := B.exec
  have hb := B.bytes
  have hr := B.returns
  have hts : ∀ w ∈ sk_W, w.before ([.ref (a 0), .int x] : List Value).toArray s = true := fun w h => atoms_spec (ws := wzM_isObject) B.pre w (List.mem_cons_of_mem _ h)
  have hown : s.vm.findClass RM = some m.cls := findClass_of_methodNamed B.named
  have hlocks := B.notSynchronized
  have hS : va_S (fun _ => False) s.heap s.heap [] := va_S.rf
  have hP : va_P (dC, dI) vwCl (sk_wMR a k th (nI b.1) b.2.2.1 b.2.2.2.1 ex.1 (nI t.1) t.2.1 t.2.2.1 t.2.2.2.2 ex.2.1 (nI f.1) f.2.1 f.2.2.1 ex.2.2.1 f.2.2.2.1 f.2.2.2.2.1 ex.2.2.2.1 ex.2.2.2.2.1 ex.2.2.2.2.2 lf) s.heap := hP
  have hl := lv_entry ([.ref (a 0), .int x]) (n := 2) (Nat.le_of_ble_eq_true rfl)
  rw [lg_entry_eq]
  generalize (lg_sl ([.ref (a 0), .int x]) ++ List.replicate (2 - (lg_sl ([.ref (a 0), .int x])).length) Slot.unset).toArray = ls at hl ⊢
  have hl : lv_has ls 2 [(0, .ref (a 0)), (1, .int x)] := hl
  refine lv_iload_n hx hb dM_isObject_0 rfl (lv_at hl 1 rfl) ?_
  refine lv_if_lt (tgt := 16) hx hb dM_isObject_1 (by decide) (fun c1 => ?_) (fun c1 => ?_)
  · skip
    refine lv_iconst (v := nI 0) hx hb dM_isObject_16 (by decide) ?_
    exact W.zret (v := nI 0) hx hb hr (by decide) (fun U9 ht hW => ⟨⟨nI 0, (), rfl, sk_hasB_f1 c1, trivial⟩, hS.F ht⟩) hS.2.2 dM_isObject_17
  · skip
    refine lv_iload_n hx hb dM_isObject_4 rfl (lv_at hl 1 rfl) ?_
    refine lv_aload_n hx hb dM_isObject_5 rfl (lv_at hl 0 rfl) ?_
    refine va_get (D := (dC, dI)) (ci := 4) (v := .int (nI b.1)) (C := RM) (T := TM) (N := 20) hx hb hts inM hown hK hP 0 rfl rfl 1 (by decide) (hts _ wfM_65) (fun _ h9 => h9) rfl dM_isObject_6 ?_
    refine lv_icmp_ge (tgt := 16) hx hb dM_isObject_9 (by decide) (fun c9 => ?_) (fun c9 => ?_)
    · skip
      refine lv_iconst (v := nI 0) hx hb dM_isObject_16 (by decide) ?_
      exact W.zret (v := nI 0) hx hb hr (by decide) (fun U9 ht hW => ⟨⟨nI 0, (), rfl, sk_hasB_f2 c9, trivial⟩, hS.F ht⟩) hS.2.2 dM_isObject_17
    · skip
      refine lv_iconst (v := nI 1) hx hb dM_isObject_12 (by decide) ?_
      refine lv_goto (tgt := 17) hx hb dM_isObject_13 (by decide) ?_
      exact W.zret (v := nI 1) hx hb hr (by decide) (fun U9 ht hW => ⟨⟨nI 1, (), rfl, sk_hasB_t c1 c9, trivial⟩, hS.F ht⟩) hS.2.2 dM_isObject_17
abbrev wzM_isName : List Cond := .code yM_isName cM_isName 1 (some .boolean) :: sk_W
abbrev rzM_isName : Room := { frames := 0, cells := 0, slots := 0, locals := 0 }
set_option maxHeartbeats 4000000 in
set_option maxRecDepth 100000 in
theorem kM_isName (l : Launch) (dC : Nat → ClassId) (dI : Nat → Nat → Nat) (a : Nat → Nat) (k : Nat → ClassId) (b : sk_Ob) (t : sk_Tr) (f : sk_Fi) (ex : sk_Ex) (lf : sk_F) (th : Int32) (x : Int32)  : Met l yM_isName wzM_isName rzM_isName (va_Pc [.int x] (sk_PM dC dI a k (b, t, f) ex lf th)) (va_Qi (fun r (_ : Unit) => r = sk_bI (sk_isN x)) (fun _ _ => True) (fun _ => False)) 0 0 (fun _ => False) := by
  refine Met.ofW (cc := cM_isName) (maxL := 1) (ret := (some .boolean)) (by decide) rfl ?_
  intro p e s m args below meth c s₁ B hml hv
  obtain ⟨rfl, hP, hK⟩ := hv
  have hx := B.exec
  have hb := B.bytes
  have hr := B.returns
  have hts : ∀ w ∈ sk_W, w.before ([.int x] : List Value).toArray s = true := fun w h => atoms_spec (ws := wzM_isName) B.pre w (List.mem_cons_of_mem _ h)
  have hown : s.vm.findClass RM = some m.cls := findClass_of_methodNamed B.named
  have hlocks := B.notSynchronized
  have hS : va_S (fun _ => False) s.heap s.heap [] := va_S.rf
  have hP : va_P (dC, dI) vwCl (sk_wMR a k th (nI b.1) b.2.2.1 b.2.2.2.1 ex.1 (nI t.1) t.2.1 t.2.2.1 t.2.2.2.2 ex.2.1 (nI f.1) f.2.1 f.2.2.1 ex.2.2.1 f.2.2.2.1 f.2.2.2.2.1 ex.2.2.2.1 ex.2.2.2.2.1 ex.2.2.2.2.2 lf) s.heap := hP
  have hl := lv_entry ([.int x]) (n := 1) (Nat.le_of_ble_eq_true rfl)
  rw [lg_entry_eq]
  generalize (lg_sl ([.int x]) ++ List.replicate (1 - (lg_sl ([.int x])).length) Slot.unset).toArray = ls at hl ⊢
  have hl : lv_has ls 1 [(0, .int x)] := hl
  refine lv_iload_n hx hb dM_isName_0 rfl (lv_at hl 0 rfl) ?_
  refine lv_if_lt (tgt := 14) hx hb dM_isName_1 (by decide) (fun c1 => ?_) (fun c1 => ?_)
  · skip
    refine lv_iconst (v := nI 0) hx hb dM_isName_14 (by decide) ?_
    exact W.zret (v := nI 0) hx hb hr (by decide) (fun U9 ht hW => ⟨⟨nI 0, (), rfl, sk_hasB_f1 c1, trivial⟩, hS.F ht⟩) hS.2.2 dM_isName_15
  · skip
    refine lv_iload_n hx hb dM_isName_4 rfl (lv_at hl 0 rfl) ?_
    refine lv_bipush (v := nI 12) hx hb dM_isName_5 (by decide) ?_
    refine lv_icmp_ge (tgt := 14) hx hb dM_isName_7 (by decide) (fun c7 => ?_) (fun c7 => ?_)
    · skip
      refine lv_iconst (v := nI 0) hx hb dM_isName_14 (by decide) ?_
      exact W.zret (v := nI 0) hx hb hr (by decide) (fun U9 ht hW => ⟨⟨nI 0, (), rfl, sk_hasB_f2 c7, trivial⟩, hS.F ht⟩) hS.2.2 dM_isName_15
    · skip
      refine lv_iconst (v := nI 1) hx hb dM_isName_10 (by decide) ?_
      refine lv_goto (tgt := 15) hx hb dM_isName_11 (by decide) ?_
      exact W.zret (v := nI 1) hx hb hr (by decide) (fun U9 ht hW => ⟨⟨nI 1, (), rfl, sk_hasB_t c1 c7, trivial⟩, hS.F ht⟩) hS.2.2 dM_isName_15
abbrev wzM_above : List Cond := .code yM_above cM_above 2 (some .int) :: sk_W
abbrev rzM_above : Room := { frames := 0, cells := 0, slots := 0, locals := 0 }
set_option maxHeartbeats 4000000 in
set_option maxRecDepth 100000 in
theorem kM_above (l : Launch) (dC : Nat → ClassId) (dI : Nat → Nat → Nat) (a : Nat → Nat) (k : Nat → ClassId) (b : sk_Ob) (t : sk_Tr) (f : sk_Fi) (ex : sk_Ex) (lf : sk_F) (th : Int32) (o : Nat) (hT : sk_TO b.1 t) (hO : sk_OO b t) (ho : o < b.1) : Met l yM_above wzM_above rzM_above (va_Pc [.ref (a 0), .int (nI o)] (sk_PM dC dI a k (b, t, f) ex lf th)) (va_Qi (fun r (_ : Unit) => r = b.2.1 o) (fun _ _ => True) (fun _ => False)) 0 0 (fun _ => False) := by
  refine Met.ofW (cc := cM_above) (maxL := 2) (ret := (some .int)) (by decide) rfl ?_
  intro p e s m args below meth c s₁ B hml hv
  obtain ⟨rfl, hP, hK⟩ := hv
  have hx := B.exec
  have hb := B.bytes
  have hr := B.returns
  have hts : ∀ w ∈ sk_W, w.before ([.ref (a 0), .int (nI o)] : List Value).toArray s = true := fun w h => atoms_spec (ws := wzM_above) B.pre w (List.mem_cons_of_mem _ h)
  have hown : s.vm.findClass RM = some m.cls := findClass_of_methodNamed B.named
  have hlocks := B.notSynchronized
  have hS : va_S (fun _ => False) s.heap s.heap [] := va_S.rf
  have hP : va_P (dC, dI) vwCl (sk_wMR a k th (nI b.1) b.2.2.1 b.2.2.2.1 ex.1 (nI t.1) t.2.1 t.2.2.1 t.2.2.2.2 ex.2.1 (nI f.1) f.2.1 f.2.2.1 ex.2.2.1 f.2.2.2.1 f.2.2.2.2.1 ex.2.2.2.1 ex.2.2.2.2.1 ex.2.2.2.2.2 lf) s.heap := hP
  have hl := lv_entry ([.ref (a 0), .int (nI o)]) (n := 2) (Nat.le_of_ble_eq_true rfl)
  rw [lg_entry_eq]
  generalize (lg_sl ([.ref (a 0), .int (nI o)]) ++ List.replicate (2 - (lg_sl ([.ref (a 0), .int (nI o)])).length) Slot.unset).toArray = ls at hl ⊢
  have hl : lv_has ls 2 [(0, .ref (a 0)), (1, .int (nI o))] := hl
  have h200 : t.1 ≤ 200 := hT.2.1
  have h60 : b.1 ≤ 60 := hT.2.2.1
  obtain ⟨hs1, hs2, hs3⟩ := sk_shOk h200 hO ho
  refine lv_aload_n hx hb dM_above_0 rfl (lv_at hl 0 rfl) ?_
  refine va_get (D := (dC, dI)) (ci := 4) (v := .ref (a 4)) (C := RM) (T := TM) (N := 20) hx hb hts inM hown hK hP 0 rfl rfl 6 (by decide) (hts _ wfM_23) (fun _ h9 => h9) rfl dM_above_1 ?_
  refine lv_aload_n hx hb dM_above_4 rfl (lv_at hl 0 rfl) ?_
  refine va_get (D := (dC, dI)) (ci := 4) (v := .ref (a 1)) (C := RM) (T := TM) (N := 20) hx hb hts inM hown hK hP 0 rfl rfl 2 (by decide) (hts _ wfM_7) (fun _ h9 => h9) rfl dM_above_5 ?_
  refine lv_iload_n hx hb dM_above_8 rfl (lv_at hl 1 rfl) ?_
  refine va_iald hx hb hK hP 1 0 rfl rfl (vp_in_nI (show o < 60 by omega) (by decide)) dM_above_9 ?_
  refine lv_topi (fun x9 e9 => ?_)
  rw [nI_clamp (show o < 2 ^ 31 by omega)] at e9
  obtain rfl : x9 = nI (sk_sh b o) := e9.trans (hs2)
  refine va_iald hx hb hK hP 4 0 rfl rfl (vp_in_nI (show (sk_sh b o) < 200 by omega) (by decide)) dM_above_10 ?_
  refine lv_topi (fun x10 e10 => ?_)
  rw [nI_clamp (show (sk_sh b o) < 2 ^ 31 by omega)] at e10
  exact W.iret (v := x10) hx hb hr (fun U9 ht hW => ⟨⟨x10, (), rfl, e10.trans hs3.symm, trivial⟩, hS.F ht⟩) hS.2.2 dM_above_11
abbrev wzM_empty : List Cond := .code yM_empty cM_empty 3 (some .int) :: sk_W
abbrev rzM_empty : Room := { frames := 0, cells := 0, slots := 0, locals := 0 }
set_option maxHeartbeats 4000000 in
set_option maxRecDepth 100000 in
theorem kM_empty (l : Launch) (dC : Nat → ClassId) (dI : Nat → Nat → Nat) (a : Nat → Nat) (k : Nat → ClassId) (b : sk_Ob) (t : sk_Tr) (f : sk_Fi) (ex : sk_Ex) (lf : sk_F) (th : Int32) (x : Int32) (hT : sk_TO b.1 t) : Met l yM_empty wzM_empty rzM_empty (va_Pc [.ref (a 0), .int x] (sk_PM dC dI a k (b, t, f) ex lf th)) (va_Qi (fun r (_ : Unit) => r = sk_em t x) (fun _ _ => True) (fun _ => False)) 0 0 (fun _ => False) := by
  refine Met.ofW (cc := cM_empty) (maxL := 3) (ret := (some .int)) (by decide) rfl ?_
  intro p e s m args below meth c s₁ B hml hv
  obtain ⟨rfl, hP, hK⟩ := hv
  have hx := B.exec
  have hb := B.bytes
  have hr := B.returns
  have hts : ∀ w ∈ sk_W, w.before ([.ref (a 0), .int x] : List Value).toArray s = true := fun w h => atoms_spec (ws := wzM_empty) B.pre w (List.mem_cons_of_mem _ h)
  have hown : s.vm.findClass RM = some m.cls := findClass_of_methodNamed B.named
  have hlocks := B.notSynchronized
  have hS : va_S (fun _ => False) s.heap s.heap [] := va_S.rf
  have hP : va_P (dC, dI) vwCl (sk_wMR a k th (nI b.1) b.2.2.1 b.2.2.2.1 ex.1 (nI t.1) t.2.1 t.2.2.1 t.2.2.2.2 ex.2.1 (nI f.1) f.2.1 f.2.2.1 ex.2.2.1 f.2.2.2.1 f.2.2.2.2.1 ex.2.2.2.1 ex.2.2.2.2.1 ex.2.2.2.2.2 lf) s.heap := hP
  have hl := lv_entry ([.ref (a 0), .int x]) (n := 3) (Nat.le_of_ble_eq_true rfl)
  rw [lg_entry_eq]
  generalize (lg_sl ([.ref (a 0), .int x]) ++ List.replicate (3 - (lg_sl ([.ref (a 0), .int x])).length) Slot.unset).toArray = ls at hl ⊢
  have hl : lv_has ls 3 [(0, .ref (a 0)), (1, .int x)] := hl
  have h200 : t.1 ≤ 200 := hT.2.1
  have h60 : b.1 ≤ 60 := hT.2.2.1
  refine lv_iconst (v := nI 0) hx hb dM_empty_0 (by decide) ?_
  refine lv_istore_n (lv' := [(2, .int (nI 0)), (0, .ref (a 0)), (1, .int x)]) hx hb dM_empty_1 rfl hl (by decide) rfl (fun ls hl => ?_)
  have loop1 : ∀ (nn : Nat) (i : Nat), i ≤ t.1 → sk_ff (fun i => (decide (t.2.2.1 i = -1) && decide (t.2.1 i = x))) (t.1 - i) i = sk_em t x → t.1 - i < nn → ∀ ls : Array Slot, lv_has ls 3 [(2, .int (nI i)), (0, .ref (a 0)), (1, .int x)] → W p l e (headSpec wzM_empty rzM_empty).room s m ([.ref (a 0), .int x] : List Value).toArray below meth c s.heap [] 0 0 (MQ below (va_Qi (fun r (_ : Unit) => r = sk_em t x) (fun _ _ => True) (fun _ => False)) ([.ref (a 0), .int x] : List Value).toArray s 0 0 (fun _ => False)) (F0 m 2 ls []) := by
    intro nn
    induction nn with
    | zero => intro i hi he hmu; exact absurd hmu (Nat.not_lt_zero _)
    | succ nn ih1 =>
      intro i hi he hmu ls hl
      refine lv_iload_n hx hb dM_empty_2 rfl (lv_at hl 0 rfl) ?_
      refine lv_aload_n hx hb dM_empty_3 rfl (lv_at hl 1 rfl) ?_
      refine va_get (D := (dC, dI)) (ci := 4) (v := .int (nI t.1)) (C := RM) (T := TM) (N := 20) hx hb hts inM hown hK hP 0 rfl rfl 5 (by decide) (hts _ wfM_19) (fun _ h9 => h9) rfl dM_empty_4 ?_
      refine lv_icmp_ge (tgt := 38) hx hb dM_empty_7 (by decide) (fun c7 => ?_) (fun c7 => ?_)
      · skip
        have n7 : t.1 ≤ i := (nI_leI (a := t.1) (b := i) (by omega) (by omega)).mp c7
        refine lv_iconst (v := (-1)) hx hb dM_empty_38 (by decide) ?_
        exact W.iret (v := (-1)) hx hb hr (fun U9 ht hW => ⟨⟨(-1), (), rfl, sk_ff_end n7 he, trivial⟩, hS.F ht⟩) hS.2.2 dM_empty_39
      · skip
        have n7 : ¬ t.1 ≤ i := fun z9 => c7 ((nI_leI (a := t.1) (b := i) (by omega) (by omega)).mpr z9)
        refine lv_aload_n hx hb dM_empty_10 rfl (lv_at hl 1 rfl) ?_
        refine va_get (D := (dC, dI)) (ci := 4) (v := .ref (a 5)) (C := RM) (T := TM) (N := 20) hx hb hts inM hown hK hP 0 rfl rfl 7 (by decide) (hts _ wfM_26) (fun _ h9 => h9) rfl dM_empty_11 ?_
        refine lv_iload_n hx hb dM_empty_14 rfl (lv_at hl 0 rfl) ?_
        refine va_iald hx hb hK hP 5 0 rfl rfl (vp_in_nI (show i < 200 by omega) (by decide)) dM_empty_15 ?_
        refine lv_topi (fun x15 e15 => ?_)
        rw [nI_clamp (show i < 2 ^ 31 by omega)] at e15
        refine lv_iconst (v := (-1)) hx hb dM_empty_16 (by decide) ?_
        refine lv_icmp_ne (tgt := 32) hx hb dM_empty_17 (by decide) (fun c17 => ?_) (fun c17 => ?_)
        · skip
          refine lv_iinc (v := nI (i + 1)) (lv' := [(2, .int (nI (i + 1))), (0, .ref (a 0)), (1, .int x)]) hx hb dM_empty_32 hl (k := 0) rfl (sk_inc _) (by decide) rfl (fun ls hl => ?_)
          refine lv_goto (tgt := 2) hx hb dM_empty_35 (by decide) ?_
          exact ih1 (i + 1) (Nat.succ_le_of_lt (Nat.lt_of_not_le n7)) (sk_ff_miss (Nat.lt_of_not_le n7) he (by show (decide (t.2.2.1 i = -1) && decide (t.2.1 i = x)) = false; rw [← e15]; simp [c17])) (by omega) ls (lv_sub hl [0, 1, 2] rfl)
        · skip
          refine lv_aload_n hx hb dM_empty_20 rfl (lv_at hl 1 rfl) ?_
          refine va_get (D := (dC, dI)) (ci := 4) (v := .ref (a 4)) (C := RM) (T := TM) (N := 20) hx hb hts inM hown hK hP 0 rfl rfl 6 (by decide) (hts _ wfM_23) (fun _ h9 => h9) rfl dM_empty_21 ?_
          refine lv_iload_n hx hb dM_empty_24 rfl (lv_at hl 0 rfl) ?_
          refine va_iald hx hb hK hP 4 0 rfl rfl (vp_in_nI (show i < 200 by omega) (by decide)) dM_empty_25 ?_
          refine lv_topi (fun x25 e25 => ?_)
          rw [nI_clamp (show i < 2 ^ 31 by omega)] at e25
          refine lv_iload_n hx hb dM_empty_26 rfl (lv_at hl 2 rfl) ?_
          refine lv_icmp_ne (tgt := 32) hx hb dM_empty_27 (by decide) (fun c27 => ?_) (fun c27 => ?_)
          · skip
            refine lv_iinc (v := nI (i + 1)) (lv' := [(2, .int (nI (i + 1))), (0, .ref (a 0)), (1, .int x)]) hx hb dM_empty_32 hl (k := 0) rfl (sk_inc _) (by decide) rfl (fun ls hl => ?_)
            refine lv_goto (tgt := 2) hx hb dM_empty_35 (by decide) ?_
            exact ih1 (i + 1) (Nat.succ_le_of_lt (Nat.lt_of_not_le n7)) (sk_ff_miss (Nat.lt_of_not_le n7) he (by show (decide (t.2.2.1 i = -1) && decide (t.2.1 i = x)) = false; rw [← e25]; simp [c27])) (by omega) ls (lv_sub hl [0, 1, 2] rfl)
          · skip
            refine lv_iload_n hx hb dM_empty_30 rfl (lv_at hl 0 rfl) ?_
            exact W.iret (v := nI i) hx hb hr (fun U9 ht hW => ⟨⟨nI i, (), rfl, sk_ff_hit (Nat.lt_of_not_le n7) he (by show (decide (t.2.2.1 i = -1) && decide (t.2.1 i = x)) = true; rw [← e15, ← e25]; simp [c17, c27]), trivial⟩, hS.F ht⟩) hS.2.2 dM_empty_31
  exact loop1 (t.1 - 0 + 1) 0 (Nat.zero_le _) (rfl) (Nat.lt_succ_self _) ls (lv_sub hl [0, 1, 2] rfl)
abbrev wzM_child : List Cond := .code yM_child cM_child 4 (some .int) :: sk_W
abbrev rzM_child : Room := { frames := 0, cells := 0, slots := 0, locals := 0 }
set_option maxHeartbeats 4000000 in
set_option maxRecDepth 100000 in
theorem kM_child (l : Launch) (dC : Nat → ClassId) (dI : Nat → Nat → Nat) (a : Nat → Nat) (k : Nat → ClassId) (b : sk_Ob) (t : sk_Tr) (f : sk_Fi) (ex : sk_Ex) (lf : sk_F) (th : Int32) (si : Nat) (x : Int32) (hT : sk_TO b.1 t) (hN : sk_RN t ex.2.1) (hs : si < t.1) : Met l yM_child wzM_child rzM_child (va_Pc [.ref (a 0), .int (nI si), .int x] (sk_PM dC dI a k (b, t, f) ex lf th)) (va_Qi (fun r (_ : Unit) => r = sk_wn t si x) (fun _ _ => True) (fun _ => False)) 0 0 (fun _ => False) := by
  refine Met.ofW (cc := cM_child) (maxL := 4) (ret := (some .int)) (by decide) rfl ?_
  intro p e s m args below meth c s₁ B hml hv
  obtain ⟨rfl, hP, hK⟩ := hv
  have hx := B.exec
  have hb := B.bytes
  have hr := B.returns
  have hts : ∀ w ∈ sk_W, w.before ([.ref (a 0), .int (nI si), .int x] : List Value).toArray s = true := fun w h => atoms_spec (ws := wzM_child) B.pre w (List.mem_cons_of_mem _ h)
  have hown : s.vm.findClass RM = some m.cls := findClass_of_methodNamed B.named
  have hlocks := B.notSynchronized
  have hS : va_S (fun _ => False) s.heap s.heap [] := va_S.rf
  have hP : va_P (dC, dI) vwCl (sk_wMR a k th (nI b.1) b.2.2.1 b.2.2.2.1 ex.1 (nI t.1) t.2.1 t.2.2.1 t.2.2.2.2 ex.2.1 (nI f.1) f.2.1 f.2.2.1 ex.2.2.1 f.2.2.2.1 f.2.2.2.2.1 ex.2.2.2.1 ex.2.2.2.2.1 ex.2.2.2.2.2 lf) s.heap := hP
  have hl := lv_entry ([.ref (a 0), .int (nI si), .int x]) (n := 4) (Nat.le_of_ble_eq_true rfl)
  rw [lg_entry_eq]
  generalize (lg_sl ([.ref (a 0), .int (nI si), .int x]) ++ List.replicate (4 - (lg_sl ([.ref (a 0), .int (nI si), .int x])).length) Slot.unset).toArray = ls at hl ⊢
  have hl : lv_has ls 4 [(0, .ref (a 0)), (1, .int (nI si)), (2, .int x)] := hl
  have h200 : t.1 ≤ 200 := hT.2.1
  have h60 : b.1 ≤ 60 := hT.2.2.1
  refine lv_iconst (v := nI 0) hx hb dM_child_0 (by decide) ?_
  refine lv_istore_n (lv' := [(3, .int (nI 0)), (0, .ref (a 0)), (1, .int (nI si)), (2, .int x)]) hx hb dM_child_1 rfl hl (by decide) rfl (fun ls hl => ?_)
  have loop1 : ∀ (nn : Nat) (i : Nat), i ≤ t.1 → sk_ff (fun i => (decide (t.2.2.1 i = nI si) && decide (t.2.2.2.1 i = x))) (t.1 - i) i = sk_wn t si x → t.1 - i < nn → ∀ ls : Array Slot, lv_has ls 4 [(3, .int (nI i)), (0, .ref (a 0)), (1, .int (nI si)), (2, .int x)] → W p l e (headSpec wzM_child rzM_child).room s m ([.ref (a 0), .int (nI si), .int x] : List Value).toArray below meth c s.heap [] 0 0 (MQ below (va_Qi (fun r (_ : Unit) => r = sk_wn t si x) (fun _ _ => True) (fun _ => False)) ([.ref (a 0), .int (nI si), .int x] : List Value).toArray s 0 0 (fun _ => False)) (F0 m 2 ls []) := by
    intro nn
    induction nn with
    | zero => intro i hi he hmu; exact absurd hmu (Nat.not_lt_zero _)
    | succ nn ih1 =>
      intro i hi he hmu ls hl
      refine lv_iload_n hx hb dM_child_2 rfl (lv_at hl 0 rfl) ?_
      refine lv_aload_n hx hb dM_child_3 rfl (lv_at hl 1 rfl) ?_
      refine va_get (D := (dC, dI)) (ci := 4) (v := .int (nI t.1)) (C := RM) (T := TM) (N := 20) hx hb hts inM hown hK hP 0 rfl rfl 5 (by decide) (hts _ wfM_19) (fun _ h9 => h9) rfl dM_child_4 ?_
      refine lv_icmp_ge (tgt := 50) hx hb dM_child_7 (by decide) (fun c7 => ?_) (fun c7 => ?_)
      · skip
        have n7 : t.1 ≤ i := (nI_leI (a := t.1) (b := i) (by omega) (by omega)).mp c7
        refine lv_iconst (v := (-1)) hx hb dM_child_50 (by decide) ?_
        exact W.iret (v := (-1)) hx hb hr (fun U9 ht hW => ⟨⟨(-1), (), rfl, sk_ff_end n7 he, trivial⟩, hS.F ht⟩) hS.2.2 dM_child_51
      · skip
        have n7 : ¬ t.1 ≤ i := fun z9 => c7 ((nI_leI (a := t.1) (b := i) (by omega) (by omega)).mpr z9)
        refine lv_aload_n hx hb dM_child_10 rfl (lv_at hl 1 rfl) ?_
        refine va_get (D := (dC, dI)) (ci := 4) (v := .ref (a 5)) (C := RM) (T := TM) (N := 20) hx hb hts inM hown hK hP 0 rfl rfl 7 (by decide) (hts _ wfM_26) (fun _ h9 => h9) rfl dM_child_11 ?_
        refine lv_iload_n hx hb dM_child_14 rfl (lv_at hl 0 rfl) ?_
        refine va_iald hx hb hK hP 5 0 rfl rfl (vp_in_nI (show i < 200 by omega) (by decide)) dM_child_15 ?_
        refine lv_topi (fun x15 e15 => ?_)
        rw [nI_clamp (show i < 2 ^ 31 by omega)] at e15
        refine lv_iload_n hx hb dM_child_16 rfl (lv_at hl 2 rfl) ?_
        refine lv_icmp_ne (tgt := 44) hx hb dM_child_17 (by decide) (fun c17 => ?_) (fun c17 => ?_)
        · skip
          refine lv_iinc (v := nI (i + 1)) (lv' := [(3, .int (nI (i + 1))), (0, .ref (a 0)), (1, .int (nI si)), (2, .int x)]) hx hb dM_child_44 hl (k := 0) rfl (sk_inc _) (by decide) rfl (fun ls hl => ?_)
          refine lv_goto (tgt := 2) hx hb dM_child_47 (by decide) ?_
          exact ih1 (i + 1) (Nat.succ_le_of_lt (Nat.lt_of_not_le n7)) (sk_ff_miss (Nat.lt_of_not_le n7) he (by show (decide (t.2.2.1 i = nI si) && decide (t.2.2.2.1 i = x)) = false; rw [← e15]; simp [c17])) (by omega) ls (lv_sub hl [0, 1, 2, 3] rfl)
        · skip
          obtain ⟨m9, hm9, hl9, hsi9, hna9⟩ := sk_top_na hT hN (Nat.lt_of_not_le n7) (by omega) (e15.symm.trans c17)
          refine lv_aload_n hx hb dM_child_20 rfl (lv_at hl 1 rfl) ?_
          refine va_get (D := (dC, dI)) (ci := 4) (v := .ref (a 7)) (C := RM) (T := TM) (N := 20) hx hb hts inM hown hK hP 0 rfl rfl 9 (by decide) (hts _ wfM_32) (fun _ h9 => h9) rfl dM_child_21 ?_
          refine lv_bipush (v := nI 12) hx hb dM_child_24 (by decide) ?_
          refine lv_iload_n hx hb dM_child_26 rfl (lv_at hl 0 rfl) ?_
          refine lv_imul hx hb dM_child_27 ?_
          refine lv_topi (fun x27 e27 => ?_)
          obtain rfl : x27 = nI (12 * i) := e27.trans (pk_mul _ _)
          refine lv_aload_n hx hb dM_child_28 rfl (lv_at hl 1 rfl) ?_
          refine va_get (D := (dC, dI)) (ci := 4) (v := .ref (a 6)) (C := RM) (T := TM) (N := 20) hx hb hts inM hown hK hP 0 rfl rfl 8 (by decide) (hts _ wfM_29) (fun _ h9 => h9) rfl dM_child_29 ?_
          refine lv_iload_n hx hb dM_child_32 rfl (lv_at hl 0 rfl) ?_
          refine va_iald hx hb hK hP 6 0 rfl rfl (vp_in_nI (show i < 200 by omega) (by decide)) dM_child_33 ?_
          refine lv_topi (fun x33 e33 => ?_)
          rw [nI_clamp (show i < 2 ^ 31 by omega)] at e33
          obtain rfl : x33 = nI (m9 + 1) := e33.trans (hl9)
          refine lv_iadd hx hb dM_child_34 ?_
          refine lv_topi (fun x34 e34 => ?_)
          obtain rfl : x34 = nI ((12 * i) + (m9 + 1)) := e34.trans (nI_add _ _)
          refine lv_iconst (v := nI 1) hx hb dM_child_35 (by decide) ?_
          refine lv_isub hx hb dM_child_36 ?_
          refine lv_topi (fun x36 e36 => ?_)
          obtain rfl : x36 = nI (((12 * i) + (m9 + 1)) - 1) := e36.trans (pk_sub (by omega))
          refine va_iald hx hb hK hP 7 0 rfl rfl (vp_in_nI (show (((12 * i) + (m9 + 1)) - 1) < 2400 by omega) (by decide)) dM_child_37 ?_
          refine lv_topi (fun x37 e37 => ?_)
          rw [nI_clamp (show (((12 * i) + (m9 + 1)) - 1) < 2 ^ 31 by omega)] at e37
          obtain rfl : x37 = t.2.2.2.1 i := e37.trans (by rw [show (12 * i) + (m9 + 1) - 1 = 12 * i + m9 by omega]; exact hna9)
          refine lv_iload_n hx hb dM_child_38 rfl (lv_at hl 3 rfl) ?_
          refine lv_icmp_ne (tgt := 44) hx hb dM_child_39 (by decide) (fun c39 => ?_) (fun c39 => ?_)
          · skip
            refine lv_iinc (v := nI (i + 1)) (lv' := [(3, .int (nI (i + 1))), (0, .ref (a 0)), (1, .int (nI si)), (2, .int x)]) hx hb dM_child_44 hl (k := 0) rfl (sk_inc _) (by decide) rfl (fun ls hl => ?_)
            refine lv_goto (tgt := 2) hx hb dM_child_47 (by decide) ?_
            exact ih1 (i + 1) (Nat.succ_le_of_lt (Nat.lt_of_not_le n7)) (sk_ff_miss (Nat.lt_of_not_le n7) he (by show (decide (t.2.2.1 i = nI si) && decide (t.2.2.2.1 i = x)) = false; simp [c39])) (by omega) ls (lv_sub hl [0, 1, 2, 3] rfl)
          · skip
            refine lv_iload_n hx hb dM_child_42 rfl (lv_at hl 0 rfl) ?_
            exact W.iret (v := nI i) hx hb hr (fun U9 ht hW => ⟨⟨nI i, (), rfl, sk_ff_hit (Nat.lt_of_not_le n7) he (by show (decide (t.2.2.1 i = nI si) && decide (t.2.2.2.1 i = x)) = true; rw [← e15]; simp [c17, c39]), trivial⟩, hS.F ht⟩) hS.2.2 dM_child_43
  exact loop1 (t.1 - 0 + 1) 0 (Nat.zero_le _) (sk_wn_0 hT hs x) (Nat.lt_succ_self _) ls (lv_sub hl [0, 1, 2, 3] rfl)
abbrev wzM_makeEmpty : List Cond := .code yM_makeEmpty cM_makeEmpty 3 (some .int) :: sk_W
abbrev rzM_makeEmpty : Room := { frames := 0, cells := 0, slots := 0, locals := 0 }
set_option maxHeartbeats 4000000 in
set_option maxRecDepth 100000 in
theorem kM_makeEmpty (l : Launch) (dC : Nat → ClassId) (dI : Nat → Nat → Nat) (a : Nat → Nat) (k : Nat → ClassId) (b : sk_Ob) (t : sk_Tr) (f : sk_Fi) (ex : sk_Ex) (lf : sk_F) (th : Int32) (A : Nat → Prop) (x : Int32) (hn : t.1 < 200) : Met l yM_makeEmpty wzM_makeEmpty rzM_makeEmpty (va_Pc [.ref (a 0), .int x] (fun U => sk_PM dC dI a k (b, t, f) ex lf th U ∧ va_D A (sk_wM a k (b, t, f) ex lf th))) (va_Qi (fun r (u : sk_S × sk_Ex × sk_F × Int32) => r = nI t.1 ∧ u = ((b, sk_make t x (-1) (-1) 0, f), ex, lf, th)) (fun u U => va_P (dC, dI) vwCl (sk_wM a k u.1 u.2.1 u.2.2.1 u.2.2.2) U.heap ∧ va_D A (sk_wM a k u.1 u.2.1 u.2.2.1 u.2.2.2)) A) 0 0 A := by
  refine Met.ofW (cc := cM_makeEmpty) (maxL := 3) (ret := (some .int)) (by decide) rfl ?_
  intro p e s m args below meth c s₁ B hml hv
  obtain ⟨rfl, ⟨hP, hK⟩, hD⟩ := hv
  have hx := B.exec
  have hb := B.bytes
  have hr := B.returns
  have hts : ∀ w ∈ sk_W, w.before ([.ref (a 0), .int x] : List Value).toArray s = true := fun w h => atoms_spec (ws := wzM_makeEmpty) B.pre w (List.mem_cons_of_mem _ h)
  have hown : s.vm.findClass RM = some m.cls := findClass_of_methodNamed B.named
  have hlocks := B.notSynchronized
  have hS : va_S A s.heap s.heap [] := va_S.rf
  have hP : va_P (dC, dI) vwCl (sk_wMR a k th (nI b.1) b.2.2.1 b.2.2.2.1 ex.1 (nI t.1) t.2.1 t.2.2.1 t.2.2.2.2 ex.2.1 (nI f.1) f.2.1 f.2.2.1 ex.2.2.1 f.2.2.2.1 f.2.2.2.2.1 ex.2.2.2.1 ex.2.2.2.2.1 ex.2.2.2.2.2 lf) s.heap := hP
  have hD : va_D A (sk_wMR a k th (nI b.1) b.2.2.1 b.2.2.2.1 ex.1 (nI t.1) t.2.1 t.2.2.1 t.2.2.2.2 ex.2.1 (nI f.1) f.2.1 f.2.2.1 ex.2.2.1 f.2.2.2.1 f.2.2.2.2.1 ex.2.2.2.1 ex.2.2.2.2.1 ex.2.2.2.2.2 lf) := hD
  have hl := lv_entry ([.ref (a 0), .int x]) (n := 3) (Nat.le_of_ble_eq_true rfl)
  rw [lg_entry_eq]
  generalize (lg_sl ([.ref (a 0), .int x]) ++ List.replicate (3 - (lg_sl ([.ref (a 0), .int x])).length) Slot.unset).toArray = ls at hl ⊢
  have hl : lv_has ls 3 [(0, .ref (a 0)), (1, .int x)] := hl
  refine lv_aload_n hx hb dM_makeEmpty_0 rfl (lv_at hl 0 rfl) ?_
  refine va_get (D := (dC, dI)) (ci := 4) (v := .int (nI t.1)) (C := RM) (T := TM) (N := 20) hx hb hts inM hown hK hP 0 rfl rfl 5 (by decide) (hts _ wfM_19) (fun _ h9 => h9) rfl dM_makeEmpty_1 ?_
  refine lv_istore_n (lv' := [(2, .int (nI t.1)), (0, .ref (a 0)), (1, .int x)]) hx hb dM_makeEmpty_4 rfl hl (by decide) rfl (fun ls hl => ?_)
  refine lv_aload_n hx hb dM_makeEmpty_5 rfl (lv_at hl 1 rfl) ?_
  refine va_get (D := (dC, dI)) (ci := 4) (v := .ref (a 4)) (C := RM) (T := TM) (N := 20) hx hb hts inM hown hK hP 0 rfl rfl 6 (by decide) (hts _ wfM_23) (fun _ h9 => h9) rfl dM_makeEmpty_6 ?_
  refine lv_iload_n hx hb dM_makeEmpty_9 rfl (lv_at hl 0 rfl) ?_
  refine lv_iload_n hx hb dM_makeEmpty_10 rfl (lv_at hl 2 rfl) ?_
  refine va_iast hx hb hK hP hD hS 4 0 rfl rfl (vp_in_nI (show t.1 < 200 by omega) (by decide)) dM_makeEmpty_11 (fun H locs hP hD hS => ?_)
  rw [nI_clamp (show t.1 < 2 ^ 31 by omega)] at hP hD
  have hP : va_P (dC, dI) vwCl (sk_wMR a k th (nI b.1) b.2.2.1 b.2.2.2.1 ex.1 (nI t.1) (upd t.2.1 t.1 x) t.2.2.1 t.2.2.2.2 ex.2.1 (nI f.1) f.2.1 f.2.2.1 ex.2.2.1 f.2.2.2.1 f.2.2.2.2.1 ex.2.2.2.1 ex.2.2.2.2.1 ex.2.2.2.2.2 lf) H := hP
  have hD : va_D A (sk_wMR a k th (nI b.1) b.2.2.1 b.2.2.2.1 ex.1 (nI t.1) (upd t.2.1 t.1 x) t.2.2.1 t.2.2.2.2 ex.2.1 (nI f.1) f.2.1 f.2.2.1 ex.2.2.1 f.2.2.2.1 f.2.2.2.2.1 ex.2.2.2.1 ex.2.2.2.2.1 ex.2.2.2.2.2 lf) := hD
  refine lv_aload_n hx hb dM_makeEmpty_12 rfl (lv_at hl 1 rfl) ?_
  refine va_get (D := (dC, dI)) (ci := 4) (v := .ref (a 5)) (C := RM) (T := TM) (N := 20) hx hb hts inM hown hK hP 0 rfl rfl 7 (by decide) (hts _ wfM_26) (fun _ h9 => h9) rfl dM_makeEmpty_13 ?_
  refine lv_iload_n hx hb dM_makeEmpty_16 rfl (lv_at hl 0 rfl) ?_
  refine lv_iconst (v := (-1)) hx hb dM_makeEmpty_17 (by decide) ?_
  refine va_iast hx hb hK hP hD hS 5 0 rfl rfl (vp_in_nI (show t.1 < 200 by omega) (by decide)) dM_makeEmpty_18 (fun H locs hP hD hS => ?_)
  rw [nI_clamp (show t.1 < 2 ^ 31 by omega)] at hP hD
  have hP : va_P (dC, dI) vwCl (sk_wMR a k th (nI b.1) b.2.2.1 b.2.2.2.1 ex.1 (nI t.1) (upd t.2.1 t.1 x) (upd t.2.2.1 t.1 (-1)) t.2.2.2.2 ex.2.1 (nI f.1) f.2.1 f.2.2.1 ex.2.2.1 f.2.2.2.1 f.2.2.2.2.1 ex.2.2.2.1 ex.2.2.2.2.1 ex.2.2.2.2.2 lf) H := hP
  have hD : va_D A (sk_wMR a k th (nI b.1) b.2.2.1 b.2.2.2.1 ex.1 (nI t.1) (upd t.2.1 t.1 x) (upd t.2.2.1 t.1 (-1)) t.2.2.2.2 ex.2.1 (nI f.1) f.2.1 f.2.2.1 ex.2.2.1 f.2.2.2.1 f.2.2.2.2.1 ex.2.2.2.1 ex.2.2.2.2.1 ex.2.2.2.2.2 lf) := hD
  refine lv_aload_n hx hb dM_makeEmpty_19 rfl (lv_at hl 1 rfl) ?_
  refine va_get (D := (dC, dI)) (ci := 4) (v := .ref (a 6)) (C := RM) (T := TM) (N := 20) hx hb hts inM hown hK hP 0 rfl rfl 8 (by decide) (hts _ wfM_29) (fun _ h9 => h9) rfl dM_makeEmpty_20 ?_
  refine lv_iload_n hx hb dM_makeEmpty_23 rfl (lv_at hl 0 rfl) ?_
  refine lv_iconst (v := nI 0) hx hb dM_makeEmpty_24 (by decide) ?_
  refine va_iast hx hb hK hP hD hS 6 0 rfl rfl (vp_in_nI (show t.1 < 200 by omega) (by decide)) dM_makeEmpty_25 (fun H locs hP hD hS => ?_)
  rw [nI_clamp (show t.1 < 2 ^ 31 by omega)] at hP hD
  have hP : va_P (dC, dI) vwCl (sk_wMR a k th (nI b.1) b.2.2.1 b.2.2.2.1 ex.1 (nI t.1) (upd t.2.1 t.1 x) (upd t.2.2.1 t.1 (-1)) (upd t.2.2.2.2 t.1 (nI 0)) ex.2.1 (nI f.1) f.2.1 f.2.2.1 ex.2.2.1 f.2.2.2.1 f.2.2.2.2.1 ex.2.2.2.1 ex.2.2.2.2.1 ex.2.2.2.2.2 lf) H := hP
  have hD : va_D A (sk_wMR a k th (nI b.1) b.2.2.1 b.2.2.2.1 ex.1 (nI t.1) (upd t.2.1 t.1 x) (upd t.2.2.1 t.1 (-1)) (upd t.2.2.2.2 t.1 (nI 0)) ex.2.1 (nI f.1) f.2.1 f.2.2.1 ex.2.2.1 f.2.2.2.1 f.2.2.2.2.1 ex.2.2.2.1 ex.2.2.2.2.1 ex.2.2.2.2.2 lf) := hD
  refine lv_aload_n hx hb dM_makeEmpty_26 rfl (lv_at hl 1 rfl) ?_
  refine lv_dup hx hb dM_makeEmpty_27 rfl ?_
  refine va_get (D := (dC, dI)) (ci := 4) (v := .int (nI t.1)) (C := RM) (T := TM) (N := 20) hx hb hts inM hown hK hP 0 rfl rfl 5 (by decide) (hts _ wfM_19) (fun _ h9 => h9) rfl dM_makeEmpty_28 ?_
  refine lv_iconst (v := nI 1) hx hb dM_makeEmpty_31 (by decide) ?_
  refine lv_iadd hx hb dM_makeEmpty_32 ?_
  refine lv_topi (fun x32 e32 => ?_)
  obtain rfl : x32 = nI (t.1 + 1) := e32.trans (nI_add _ _)
  refine va_put (D := (dC, dI)) (ci := 4) (v := .int (nI (t.1 + 1))) (ty := .int) (C := RM) (T := TM) (N := 20) hx hb hts inM tyM tyM_ok nmM hown hK hP hD hS 0 rfl rfl 5 (by decide) (hts _ wfM_19) (fun _ h9 => h9) rfl (by decide +kernel) rfl rfl (Nat.le_of_ble_eq_true rfl) dM_makeEmpty_33 (fun H locs hP hD hS => ?_)
  have hP : va_P (dC, dI) vwCl (sk_wMR a k th (nI b.1) b.2.2.1 b.2.2.2.1 ex.1 (nI (t.1 + 1)) (upd t.2.1 t.1 x) (upd t.2.2.1 t.1 (-1)) (upd t.2.2.2.2 t.1 (nI 0)) ex.2.1 (nI f.1) f.2.1 f.2.2.1 ex.2.2.1 f.2.2.2.1 f.2.2.2.2.1 ex.2.2.2.1 ex.2.2.2.2.1 ex.2.2.2.2.2 lf) H := hP
  have hD : va_D A (sk_wMR a k th (nI b.1) b.2.2.1 b.2.2.2.1 ex.1 (nI (t.1 + 1)) (upd t.2.1 t.1 x) (upd t.2.2.1 t.1 (-1)) (upd t.2.2.2.2 t.1 (nI 0)) ex.2.1 (nI f.1) f.2.1 f.2.2.1 ex.2.2.1 f.2.2.2.1 f.2.2.2.2.1 ex.2.2.2.1 ex.2.2.2.2.1 ex.2.2.2.2.2 lf) := hD
  refine lv_iload_n hx hb dM_makeEmpty_36 rfl (lv_at hl 0 rfl) ?_
  exact W.iret (v := nI t.1) hx hb hr (fun U9 ht hW => ⟨⟨nI t.1, ((b, sk_make t x (-1) (-1) 0, f), ex, lf, th), rfl, ⟨rfl, rfl⟩, sk_endw ht hP hD⟩, hS.F ht⟩) hS.2.2 dM_makeEmpty_37
abbrev wzM_makeChild : List Cond := .code yM_makeChild cM_makeChild 5 (some .int) :: sk_W
abbrev rzM_makeChild : Room := { frames := 0, cells := 0, slots := 0, locals := 0 }
set_option maxHeartbeats 4000000 in
set_option maxRecDepth 100000 in
theorem kM_makeChild (l : Launch) (dC : Nat → ClassId) (dI : Nat → Nat → Nat) (a : Nat → Nat) (k : Nat → ClassId) (b : sk_Ob) (t : sk_Tr) (f : sk_Fi) (ex : sk_Ex) (lf : sk_F) (th : Int32) (A : Nat → Prop) (si : Nat) (x : Int32) (hT : sk_TO b.1 t) (hN : sk_RN t ex.2.1) (hs : si < t.1) (hn : t.1 < 200) (hm : sk_len t si < 12) : Met l yM_makeChild wzM_makeChild rzM_makeChild (va_Pc [.ref (a 0), .int (nI si), .int x] (fun U => sk_PM dC dI a k (b, t, f) ex lf th U ∧ va_D A (sk_wM a k (b, t, f) ex lf th))) (va_Qi (fun r (u : sk_S × sk_Ex × sk_F × Int32) => r = nI t.1 ∧ ∃ na2, u = ((b, sk_grow1 t si x, f), (ex.1, na2, ex.2.2), lf, th) ∧ sk_RN (sk_grow1 t si x) na2) (fun u U => va_P (dC, dI) vwCl (sk_wM a k u.1 u.2.1 u.2.2.1 u.2.2.2) U.heap ∧ va_D A (sk_wM a k u.1 u.2.1 u.2.2.1 u.2.2.2)) A) 0 0 A := by
  refine Met.ofW (cc := cM_makeChild) (maxL := 5) (ret := (some .int)) (by decide) rfl ?_
  intro p e s m args below meth c s₁ B hml hv
  obtain ⟨rfl, ⟨hP, hK⟩, hD⟩ := hv
  have hx := B.exec
  have hb := B.bytes
  have hr := B.returns
  have hts : ∀ w ∈ sk_W, w.before ([.ref (a 0), .int (nI si), .int x] : List Value).toArray s = true := fun w h => atoms_spec (ws := wzM_makeChild) B.pre w (List.mem_cons_of_mem _ h)
  have hown : s.vm.findClass RM = some m.cls := findClass_of_methodNamed B.named
  have hlocks := B.notSynchronized
  have hS : va_S A s.heap s.heap [] := va_S.rf
  have hP : va_P (dC, dI) vwCl (sk_wMR a k th (nI b.1) b.2.2.1 b.2.2.2.1 ex.1 (nI t.1) t.2.1 t.2.2.1 t.2.2.2.2 ex.2.1 (nI f.1) f.2.1 f.2.2.1 ex.2.2.1 f.2.2.2.1 f.2.2.2.2.1 ex.2.2.2.1 ex.2.2.2.2.1 ex.2.2.2.2.2 lf) s.heap := hP
  have hD : va_D A (sk_wMR a k th (nI b.1) b.2.2.1 b.2.2.2.1 ex.1 (nI t.1) t.2.1 t.2.2.1 t.2.2.2.2 ex.2.1 (nI f.1) f.2.1 f.2.2.1 ex.2.2.1 f.2.2.2.1 f.2.2.2.2.1 ex.2.2.2.1 ex.2.2.2.2.1 ex.2.2.2.2.2 lf) := hD
  have hl := lv_entry ([.ref (a 0), .int (nI si), .int x]) (n := 5) (Nat.le_of_ble_eq_true rfl)
  rw [lg_entry_eq]
  generalize (lg_sl ([.ref (a 0), .int (nI si), .int x]) ++ List.replicate (5 - (lg_sl ([.ref (a 0), .int (nI si), .int x])).length) Slot.unset).toArray = ls at hl ⊢
  have hl : lv_has ls 5 [(0, .ref (a 0)), (1, .int (nI si)), (2, .int x)] := hl
  have h200 : t.1 ≤ 200 := hT.2.1
  have h60 : b.1 ≤ 60 := hT.2.2.1
  obtain ⟨g, hg, hle, hlen⟩ := sk_lenOk hT hs
  refine lv_aload_n hx hb dM_makeChild_0 rfl (lv_at hl 0 rfl) ?_
  refine va_get (D := (dC, dI)) (ci := 4) (v := .int (nI t.1)) (C := RM) (T := TM) (N := 20) hx hb hts inM hown hK hP 0 rfl rfl 5 (by decide) (hts _ wfM_19) (fun _ h9 => h9) rfl dM_makeChild_1 ?_
  refine lv_istore_n (lv' := [(3, .int (nI t.1)), (0, .ref (a 0)), (1, .int (nI si)), (2, .int x)]) hx hb dM_makeChild_4 rfl hl (by decide) rfl (fun ls hl => ?_)
  refine lv_aload_n hx hb dM_makeChild_5 rfl (lv_at hl 1 rfl) ?_
  refine va_get (D := (dC, dI)) (ci := 4) (v := .ref (a 4)) (C := RM) (T := TM) (N := 20) hx hb hts inM hown hK hP 0 rfl rfl 6 (by decide) (hts _ wfM_23) (fun _ h9 => h9) rfl dM_makeChild_6 ?_
  refine lv_iload_n hx hb dM_makeChild_9 rfl (lv_at hl 0 rfl) ?_
  refine lv_aload_n hx hb dM_makeChild_10 rfl (lv_at hl 1 rfl) ?_
  refine va_get (D := (dC, dI)) (ci := 4) (v := .ref (a 4)) (C := RM) (T := TM) (N := 20) hx hb hts inM hown hK hP 0 rfl rfl 6 (by decide) (hts _ wfM_23) (fun _ h9 => h9) rfl dM_makeChild_11 ?_
  refine lv_iload_n hx hb dM_makeChild_14 rfl (lv_at hl 2 rfl) ?_
  refine va_iald hx hb hK hP 4 0 rfl rfl (vp_in_nI (show si < 200 by omega) (by decide)) dM_makeChild_15 ?_
  refine lv_topi (fun x15 e15 => ?_)
  rw [nI_clamp (show si < 2 ^ 31 by omega)] at e15
  obtain rfl : x15 = t.2.1 si := e15.trans (rfl)
  refine va_iast hx hb hK hP hD hS 4 0 rfl rfl (vp_in_nI (show t.1 < 200 by omega) (by decide)) dM_makeChild_16 (fun H locs hP hD hS => ?_)
  rw [nI_clamp (show t.1 < 2 ^ 31 by omega)] at hP hD
  have hP : va_P (dC, dI) vwCl (sk_wMR a k th (nI b.1) b.2.2.1 b.2.2.2.1 ex.1 (nI t.1) (upd t.2.1 t.1 (t.2.1 si)) t.2.2.1 t.2.2.2.2 ex.2.1 (nI f.1) f.2.1 f.2.2.1 ex.2.2.1 f.2.2.2.1 f.2.2.2.2.1 ex.2.2.2.1 ex.2.2.2.2.1 ex.2.2.2.2.2 lf) H := hP
  have hD : va_D A (sk_wMR a k th (nI b.1) b.2.2.1 b.2.2.2.1 ex.1 (nI t.1) (upd t.2.1 t.1 (t.2.1 si)) t.2.2.1 t.2.2.2.2 ex.2.1 (nI f.1) f.2.1 f.2.2.1 ex.2.2.1 f.2.2.2.1 f.2.2.2.2.1 ex.2.2.2.1 ex.2.2.2.2.1 ex.2.2.2.2.2 lf) := hD
  refine lv_aload_n hx hb dM_makeChild_17 rfl (lv_at hl 1 rfl) ?_
  refine va_get (D := (dC, dI)) (ci := 4) (v := .ref (a 5)) (C := RM) (T := TM) (N := 20) hx hb hts inM hown hK hP 0 rfl rfl 7 (by decide) (hts _ wfM_26) (fun _ h9 => h9) rfl dM_makeChild_18 ?_
  refine lv_iload_n hx hb dM_makeChild_21 rfl (lv_at hl 0 rfl) ?_
  refine lv_iload_n hx hb dM_makeChild_22 rfl (lv_at hl 2 rfl) ?_
  refine va_iast hx hb hK hP hD hS 5 0 rfl rfl (vp_in_nI (show t.1 < 200 by omega) (by decide)) dM_makeChild_23 (fun H locs hP hD hS => ?_)
  rw [nI_clamp (show t.1 < 2 ^ 31 by omega)] at hP hD
  have hP : va_P (dC, dI) vwCl (sk_wMR a k th (nI b.1) b.2.2.1 b.2.2.2.1 ex.1 (nI t.1) (upd t.2.1 t.1 (t.2.1 si)) (upd t.2.2.1 t.1 (nI si)) t.2.2.2.2 ex.2.1 (nI f.1) f.2.1 f.2.2.1 ex.2.2.1 f.2.2.2.1 f.2.2.2.2.1 ex.2.2.2.1 ex.2.2.2.2.1 ex.2.2.2.2.2 lf) H := hP
  have hD : va_D A (sk_wMR a k th (nI b.1) b.2.2.1 b.2.2.2.1 ex.1 (nI t.1) (upd t.2.1 t.1 (t.2.1 si)) (upd t.2.2.1 t.1 (nI si)) t.2.2.2.2 ex.2.1 (nI f.1) f.2.1 f.2.2.1 ex.2.2.1 f.2.2.2.1 f.2.2.2.2.1 ex.2.2.2.1 ex.2.2.2.2.1 ex.2.2.2.2.2 lf) := hD
  refine lv_aload_n hx hb dM_makeChild_24 rfl (lv_at hl 1 rfl) ?_
  refine va_get (D := (dC, dI)) (ci := 4) (v := .ref (a 6)) (C := RM) (T := TM) (N := 20) hx hb hts inM hown hK hP 0 rfl rfl 8 (by decide) (hts _ wfM_29) (fun _ h9 => h9) rfl dM_makeChild_25 ?_
  refine lv_iload_n hx hb dM_makeChild_28 rfl (lv_at hl 0 rfl) ?_
  refine lv_aload_n hx hb dM_makeChild_29 rfl (lv_at hl 1 rfl) ?_
  refine va_get (D := (dC, dI)) (ci := 4) (v := .ref (a 6)) (C := RM) (T := TM) (N := 20) hx hb hts inM hown hK hP 0 rfl rfl 8 (by decide) (hts _ wfM_29) (fun _ h9 => h9) rfl dM_makeChild_30 ?_
  refine lv_iload_n hx hb dM_makeChild_33 rfl (lv_at hl 2 rfl) ?_
  refine va_iald hx hb hK hP 6 0 rfl rfl (vp_in_nI (show si < 200 by omega) (by decide)) dM_makeChild_34 ?_
  refine lv_topi (fun x34 e34 => ?_)
  rw [nI_clamp (show si < 2 ^ 31 by omega)] at e34
  obtain rfl : x34 = nI g := e34.trans (hle)
  refine lv_iconst (v := nI 1) hx hb dM_makeChild_35 (by decide) ?_
  refine lv_iadd hx hb dM_makeChild_36 ?_
  refine lv_topi (fun x36 e36 => ?_)
  obtain rfl : x36 = nI (g + 1) := e36.trans (nI_add _ _)
  refine va_iast hx hb hK hP hD hS 6 0 rfl rfl (vp_in_nI (show t.1 < 200 by omega) (by decide)) dM_makeChild_37 (fun H locs hP hD hS => ?_)
  rw [nI_clamp (show t.1 < 2 ^ 31 by omega)] at hP hD
  have hP : va_P (dC, dI) vwCl (sk_wMR a k th (nI b.1) b.2.2.1 b.2.2.2.1 ex.1 (nI t.1) (upd t.2.1 t.1 (t.2.1 si)) (upd t.2.2.1 t.1 (nI si)) (upd t.2.2.2.2 t.1 (nI (g + 1))) ex.2.1 (nI f.1) f.2.1 f.2.2.1 ex.2.2.1 f.2.2.2.1 f.2.2.2.2.1 ex.2.2.2.1 ex.2.2.2.2.1 ex.2.2.2.2.2 lf) H := hP
  have hD : va_D A (sk_wMR a k th (nI b.1) b.2.2.1 b.2.2.2.1 ex.1 (nI t.1) (upd t.2.1 t.1 (t.2.1 si)) (upd t.2.2.1 t.1 (nI si)) (upd t.2.2.2.2 t.1 (nI (g + 1))) ex.2.1 (nI f.1) f.2.1 f.2.2.1 ex.2.2.1 f.2.2.2.1 f.2.2.2.2.1 ex.2.2.2.1 ex.2.2.2.2.1 ex.2.2.2.2.2 lf) := hD
  refine lv_iconst (v := nI 0) hx hb dM_makeChild_38 (by decide) ?_
  refine lv_istore (lv' := [(4, .int (nI 0)), (3, .int (nI t.1)), (0, .ref (a 0)), (1, .int (nI si)), (2, .int x)]) hx hb dM_makeChild_39 hl (by decide) rfl (fun ls hl => ?_)
  have loop1 : ∀ (nn : Nat) (j : Nat) (n2 : sk_F), j ≤ g → (∀ q, q < 12 * t.1 → n2 q = ex.2.1 q) → (∀ q, q < j → n2 (12 * t.1 + q) = ex.2.1 (12 * si + q)) → g - j < nn → ∀ (H : Heap) (locs : List Loc), va_P (dC, dI) vwCl (sk_wMR a k th (nI b.1) b.2.2.1 b.2.2.2.1 ex.1 (nI t.1) (upd t.2.1 t.1 (t.2.1 si)) (upd t.2.2.1 t.1 (nI si)) (upd t.2.2.2.2 t.1 (nI (g + 1))) n2 (nI f.1) f.2.1 f.2.2.1 ex.2.2.1 f.2.2.2.1 f.2.2.2.2.1 ex.2.2.2.1 ex.2.2.2.2.1 ex.2.2.2.2.2 lf) H → va_D A (sk_wMR a k th (nI b.1) b.2.2.1 b.2.2.2.1 ex.1 (nI t.1) (upd t.2.1 t.1 (t.2.1 si)) (upd t.2.2.1 t.1 (nI si)) (upd t.2.2.2.2 t.1 (nI (g + 1))) n2 (nI f.1) f.2.1 f.2.2.1 ex.2.2.1 f.2.2.2.1 f.2.2.2.2.1 ex.2.2.2.1 ex.2.2.2.2.1 ex.2.2.2.2.2 lf) → va_S A s.heap H locs → ∀ ls : Array Slot, lv_has ls 5 [(4, .int (nI j)), (3, .int (nI t.1)), (0, .ref (a 0)), (1, .int (nI si)), (2, .int x)] → W p l e (headSpec wzM_makeChild rzM_makeChild).room s m ([.ref (a 0), .int (nI si), .int x] : List Value).toArray below meth c H locs 0 0 (MQ below (va_Qi (fun r (u : sk_S × sk_Ex × sk_F × Int32) => r = nI t.1 ∧ ∃ na2, u = ((b, sk_grow1 t si x, f), (ex.1, na2, ex.2.2), lf, th) ∧ sk_RN (sk_grow1 t si x) na2) (fun u U => va_P (dC, dI) vwCl (sk_wM a k u.1 u.2.1 u.2.2.1 u.2.2.2) U.heap ∧ va_D A (sk_wM a k u.1 u.2.1 u.2.2.1 u.2.2.2)) A) ([.ref (a 0), .int (nI si), .int x] : List Value).toArray s 0 0 A) (F0 m 41 ls []) := by
    intro nn
    induction nn with
    | zero => intro j n2 hj hA9 hB9 hmu; exact absurd hmu (Nat.not_lt_zero _)
    | succ nn ih1 =>
      intro j n2 hj hA9 hB9 hmu H locs hP hD hS ls hl
      refine lv_iload hx hb dM_makeChild_41 (lv_at hl 0 rfl) ?_
      refine lv_aload_n hx hb dM_makeChild_43 rfl (lv_at hl 2 rfl) ?_
      refine va_get (D := (dC, dI)) (ci := 4) (v := .ref (a 6)) (C := RM) (T := TM) (N := 20) hx hb hts inM hown hK hP 0 rfl rfl 8 (by decide) (hts _ wfM_29) (fun _ h9 => h9) rfl dM_makeChild_44 ?_
      refine lv_iload_n hx hb dM_makeChild_47 rfl (lv_at hl 3 rfl) ?_
      refine va_iald hx hb hK hP 6 0 rfl rfl (vp_in_nI (show si < 200 by omega) (by decide)) dM_makeChild_48 ?_
      refine lv_topi (fun x48 e48 => ?_)
      rw [nI_clamp (show si < 2 ^ 31 by omega)] at e48
      obtain rfl : x48 = nI g := e48.trans ((pk_un (by omega)).trans hle)
      refine lv_icmp_ge (tgt := 82) hx hb dM_makeChild_49 (by decide) (fun c49 => ?_) (fun c49 => ?_)
      · skip
        have n49 : g ≤ j := (nI_leI (a := g) (b := j) (by omega) (by omega)).mp c49
        refine lv_aload_n hx hb dM_makeChild_82 rfl (lv_at hl 2 rfl) ?_
        refine va_get (D := (dC, dI)) (ci := 4) (v := .ref (a 7)) (C := RM) (T := TM) (N := 20) hx hb hts inM hown hK hP 0 rfl rfl 9 (by decide) (hts _ wfM_32) (fun _ h9 => h9) rfl dM_makeChild_83 ?_
        refine lv_bipush (v := nI 12) hx hb dM_makeChild_86 (by decide) ?_
        refine lv_iload_n hx hb dM_makeChild_88 rfl (lv_at hl 1 rfl) ?_
        refine lv_imul hx hb dM_makeChild_89 ?_
        refine lv_topi (fun x89 e89 => ?_)
        obtain rfl : x89 = nI (12 * t.1) := e89.trans (pk_mul _ _)
        refine lv_aload_n hx hb dM_makeChild_90 rfl (lv_at hl 2 rfl) ?_
        refine va_get (D := (dC, dI)) (ci := 4) (v := .ref (a 6)) (C := RM) (T := TM) (N := 20) hx hb hts inM hown hK hP 0 rfl rfl 8 (by decide) (hts _ wfM_29) (fun _ h9 => h9) rfl dM_makeChild_91 ?_
        refine lv_iload_n hx hb dM_makeChild_94 rfl (lv_at hl 3 rfl) ?_
        refine va_iald hx hb hK hP 6 0 rfl rfl (vp_in_nI (show si < 200 by omega) (by decide)) dM_makeChild_95 ?_
        refine lv_topi (fun x95 e95 => ?_)
        rw [nI_clamp (show si < 2 ^ 31 by omega)] at e95
        obtain rfl : x95 = nI g := e95.trans ((pk_un (by omega)).trans hle)
        refine lv_iadd hx hb dM_makeChild_96 ?_
        refine lv_topi (fun x96 e96 => ?_)
        obtain rfl : x96 = nI ((12 * t.1) + g) := e96.trans (nI_add _ _)
        refine lv_iload_n hx hb dM_makeChild_97 rfl (lv_at hl 4 rfl) ?_
        refine va_iast hx hb hK hP hD hS 7 0 rfl rfl (vp_in_nI (show ((12 * t.1) + g) < 2400 by omega) (by decide)) dM_makeChild_98 (fun H locs hP hD hS => ?_)
        rw [nI_clamp (show ((12 * t.1) + g) < 2 ^ 31 by omega)] at hP hD
        have hP : va_P (dC, dI) vwCl (sk_wMR a k th (nI b.1) b.2.2.1 b.2.2.2.1 ex.1 (nI t.1) (upd t.2.1 t.1 (t.2.1 si)) (upd t.2.2.1 t.1 (nI si)) (upd t.2.2.2.2 t.1 (nI (g + 1))) (upd n2 ((12 * t.1) + g) x) (nI f.1) f.2.1 f.2.2.1 ex.2.2.1 f.2.2.2.1 f.2.2.2.2.1 ex.2.2.2.1 ex.2.2.2.2.1 ex.2.2.2.2.2 lf) H := hP
        have hD : va_D A (sk_wMR a k th (nI b.1) b.2.2.1 b.2.2.2.1 ex.1 (nI t.1) (upd t.2.1 t.1 (t.2.1 si)) (upd t.2.2.1 t.1 (nI si)) (upd t.2.2.2.2 t.1 (nI (g + 1))) (upd n2 ((12 * t.1) + g) x) (nI f.1) f.2.1 f.2.2.1 ex.2.2.1 f.2.2.2.1 f.2.2.2.2.1 ex.2.2.2.1 ex.2.2.2.2.1 ex.2.2.2.2.2 lf) := hD
        refine lv_aload_n hx hb dM_makeChild_99 rfl (lv_at hl 2 rfl) ?_
        refine lv_dup hx hb dM_makeChild_100 rfl ?_
        refine va_get (D := (dC, dI)) (ci := 4) (v := .int (nI t.1)) (C := RM) (T := TM) (N := 20) hx hb hts inM hown hK hP 0 rfl rfl 5 (by decide) (hts _ wfM_19) (fun _ h9 => h9) rfl dM_makeChild_101 ?_
        refine lv_iconst (v := nI 1) hx hb dM_makeChild_104 (by decide) ?_
        refine lv_iadd hx hb dM_makeChild_105 ?_
        refine lv_topi (fun x105 e105 => ?_)
        obtain rfl : x105 = nI (t.1 + 1) := e105.trans (nI_add _ _)
        refine va_put (D := (dC, dI)) (ci := 4) (v := .int (nI (t.1 + 1))) (ty := .int) (C := RM) (T := TM) (N := 20) hx hb hts inM tyM tyM_ok nmM hown hK hP hD hS 0 rfl rfl 5 (by decide) (hts _ wfM_19) (fun _ h9 => h9) rfl (by decide +kernel) rfl rfl (Nat.le_of_ble_eq_true rfl) dM_makeChild_106 (fun H locs hP hD hS => ?_)
        have hP : va_P (dC, dI) vwCl (sk_wMR a k th (nI b.1) b.2.2.1 b.2.2.2.1 ex.1 (nI (t.1 + 1)) (upd t.2.1 t.1 (t.2.1 si)) (upd t.2.2.1 t.1 (nI si)) (upd t.2.2.2.2 t.1 (nI (g + 1))) (upd n2 ((12 * t.1) + g) x) (nI f.1) f.2.1 f.2.2.1 ex.2.2.1 f.2.2.2.1 f.2.2.2.2.1 ex.2.2.2.1 ex.2.2.2.2.1 ex.2.2.2.2.2 lf) H := hP
        have hD : va_D A (sk_wMR a k th (nI b.1) b.2.2.1 b.2.2.2.1 ex.1 (nI (t.1 + 1)) (upd t.2.1 t.1 (t.2.1 si)) (upd t.2.2.1 t.1 (nI si)) (upd t.2.2.2.2 t.1 (nI (g + 1))) (upd n2 ((12 * t.1) + g) x) (nI f.1) f.2.1 f.2.2.1 ex.2.2.1 f.2.2.2.1 f.2.2.2.2.1 ex.2.2.2.1 ex.2.2.2.2.1 ex.2.2.2.2.2 lf) := hD
        refine lv_iload_n hx hb dM_makeChild_109 rfl (lv_at hl 1 rfl) ?_
        rw [show nI (g + 1) = t.2.2.2.2 si + 1 by rw [hle]; exact (nI_1 g).symm] at hP hD
        exact W.iret (v := nI t.1) hx hb hr (fun U9 ht hW => ⟨⟨nI t.1, ((b, sk_grow1 t si x, f), (ex.1, upd n2 (12 * t.1 + g) x, ex.2.2), lf, th), rfl, ⟨rfl, _, rfl, sk_RN_child hT hN hs (by omega) hle (fun q hq => (pk_un (by omega)).trans (hA9 q hq)) (fun q hq => (pk_un (by omega)).trans (hB9 q (by omega))) pk_us⟩, sk_endw ht hP hD⟩, hS.F ht⟩) hS.2.2 dM_makeChild_110
      · skip
        have n49 : ¬ g ≤ j := fun z9 => c49 ((nI_leI (a := g) (b := j) (by omega) (by omega)).mpr z9)
        refine lv_aload_n hx hb dM_makeChild_52 rfl (lv_at hl 2 rfl) ?_
        refine va_get (D := (dC, dI)) (ci := 4) (v := .ref (a 7)) (C := RM) (T := TM) (N := 20) hx hb hts inM hown hK hP 0 rfl rfl 9 (by decide) (hts _ wfM_32) (fun _ h9 => h9) rfl dM_makeChild_53 ?_
        refine lv_bipush (v := nI 12) hx hb dM_makeChild_56 (by decide) ?_
        refine lv_iload_n hx hb dM_makeChild_58 rfl (lv_at hl 1 rfl) ?_
        refine lv_imul hx hb dM_makeChild_59 ?_
        refine lv_topi (fun x59 e59 => ?_)
        obtain rfl : x59 = nI (12 * t.1) := e59.trans (pk_mul _ _)
        refine lv_iload hx hb dM_makeChild_60 (lv_at hl 0 rfl) ?_
        refine lv_iadd hx hb dM_makeChild_62 ?_
        refine lv_topi (fun x62 e62 => ?_)
        obtain rfl : x62 = nI ((12 * t.1) + j) := e62.trans (nI_add _ _)
        refine lv_aload_n hx hb dM_makeChild_63 rfl (lv_at hl 2 rfl) ?_
        refine va_get (D := (dC, dI)) (ci := 4) (v := .ref (a 7)) (C := RM) (T := TM) (N := 20) hx hb hts inM hown hK hP 0 rfl rfl 9 (by decide) (hts _ wfM_32) (fun _ h9 => h9) rfl dM_makeChild_64 ?_
        refine lv_bipush (v := nI 12) hx hb dM_makeChild_67 (by decide) ?_
        refine lv_iload_n hx hb dM_makeChild_69 rfl (lv_at hl 3 rfl) ?_
        refine lv_imul hx hb dM_makeChild_70 ?_
        refine lv_topi (fun x70 e70 => ?_)
        obtain rfl : x70 = nI (12 * si) := e70.trans (pk_mul _ _)
        refine lv_iload hx hb dM_makeChild_71 (lv_at hl 0 rfl) ?_
        refine lv_iadd hx hb dM_makeChild_73 ?_
        refine lv_topi (fun x73 e73 => ?_)
        obtain rfl : x73 = nI ((12 * si) + j) := e73.trans (nI_add _ _)
        refine va_iald hx hb hK hP 7 0 rfl rfl (vp_in_nI (show ((12 * si) + j) < 2400 by omega) (by decide)) dM_makeChild_74 ?_
        refine lv_topi (fun x74 e74 => ?_)
        rw [nI_clamp (show ((12 * si) + j) < 2 ^ 31 by omega)] at e74
        refine va_iast hx hb hK hP hD hS 7 0 rfl rfl (vp_in_nI (show ((12 * t.1) + j) < 2400 by omega) (by decide)) dM_makeChild_75 (fun H locs hP hD hS => ?_)
        rw [nI_clamp (show ((12 * t.1) + j) < 2 ^ 31 by omega)] at hP hD
        have hP : va_P (dC, dI) vwCl (sk_wMR a k th (nI b.1) b.2.2.1 b.2.2.2.1 ex.1 (nI t.1) (upd t.2.1 t.1 (t.2.1 si)) (upd t.2.2.1 t.1 (nI si)) (upd t.2.2.2.2 t.1 (nI (g + 1))) (upd n2 ((12 * t.1) + j) x74) (nI f.1) f.2.1 f.2.2.1 ex.2.2.1 f.2.2.2.1 f.2.2.2.2.1 ex.2.2.2.1 ex.2.2.2.2.1 ex.2.2.2.2.2 lf) H := hP
        have hD : va_D A (sk_wMR a k th (nI b.1) b.2.2.1 b.2.2.2.1 ex.1 (nI t.1) (upd t.2.1 t.1 (t.2.1 si)) (upd t.2.2.1 t.1 (nI si)) (upd t.2.2.2.2 t.1 (nI (g + 1))) (upd n2 ((12 * t.1) + j) x74) (nI f.1) f.2.1 f.2.2.1 ex.2.2.1 f.2.2.2.1 f.2.2.2.2.1 ex.2.2.2.1 ex.2.2.2.2.1 ex.2.2.2.2.2 lf) := hD
        refine lv_iinc (v := nI (j + 1)) (lv' := [(4, .int (nI (j + 1))), (3, .int (nI t.1)), (0, .ref (a 0)), (1, .int (nI si)), (2, .int x)]) hx hb dM_makeChild_76 hl (k := 0) rfl (sk_inc _) (by decide) rfl (fun ls hl => ?_)
        refine lv_goto (tgt := 41) hx hb dM_makeChild_79 (by decide) ?_
        exact ih1 (j + 1) (upd n2 (12 * t.1 + j) x74) (by omega) (fun q hq => (pk_un (by omega)).trans (hA9 q hq)) (fun q hq => (Nat.lt_or_eq_of_le (Nat.le_of_lt_succ hq)).elim (fun z9 => (pk_un (by omega)).trans (hB9 q z9)) (fun z9 => by subst z9; rw [pk_us, e74]; exact hA9 _ (by omega))) (by omega) _ _ hP hD hS ls (lv_sub hl [0, 1, 2, 3, 4] rfl)
  exact loop1 (g - 0 + 1) 0 ex.2.1 (Nat.zero_le _) (fun _ _ => rfl) (fun q hq => absurd hq (Nat.not_lt_zero q)) (Nat.lt_succ_self _) _ _ hP hD hS ls (lv_sub hl [0, 1, 2, 3, 4] rfl)
abbrev wzM_placeOf : List Cond := .code yM_placeOf cM_placeOf 4 (some .int) :: sk_W
abbrev rzM_placeOf : Room := { frames := 0, cells := 0, slots := 0, locals := 0 }
set_option maxHeartbeats 4000000 in
set_option maxRecDepth 100000 in
theorem kM_placeOf (l : Launch) (dC : Nat → ClassId) (dI : Nat → Nat → Nat) (a : Nat → Nat) (k : Nat → ClassId) (b : sk_Ob) (t : sk_Tr) (f : sk_Fi) (ex : sk_Ex) (lf : sk_F) (th : Int32) (si : Nat) (x : Int32) (hT : sk_TO b.1 t) (hN : sk_RN t ex.2.1) (hs : si < t.1) : Met l yM_placeOf wzM_placeOf rzM_placeOf (va_Pc [.ref (a 0), .int (nI si), .int x] (sk_PM dC dI a k (b, t, f) ex lf th)) (va_Qi (fun r (_ : Unit) => r = sk_place t x si) (fun _ _ => True) (fun _ => False)) 0 0 (fun _ => False) := by
  refine Met.ofW (cc := cM_placeOf) (maxL := 4) (ret := (some .int)) (by decide) rfl ?_
  intro p e s m args below meth c s₁ B hml hv
  obtain ⟨rfl, hP, hK⟩ := hv
  have hx := B.exec
  have hb := B.bytes
  have hr := B.returns
  have hts : ∀ w ∈ sk_W, w.before ([.ref (a 0), .int (nI si), .int x] : List Value).toArray s = true := fun w h => atoms_spec (ws := wzM_placeOf) B.pre w (List.mem_cons_of_mem _ h)
  have hown : s.vm.findClass RM = some m.cls := findClass_of_methodNamed B.named
  have hlocks := B.notSynchronized
  have hS : va_S (fun _ => False) s.heap s.heap [] := va_S.rf
  have hP : va_P (dC, dI) vwCl (sk_wMR a k th (nI b.1) b.2.2.1 b.2.2.2.1 ex.1 (nI t.1) t.2.1 t.2.2.1 t.2.2.2.2 ex.2.1 (nI f.1) f.2.1 f.2.2.1 ex.2.2.1 f.2.2.2.1 f.2.2.2.2.1 ex.2.2.2.1 ex.2.2.2.2.1 ex.2.2.2.2.2 lf) s.heap := hP
  have hl := lv_entry ([.ref (a 0), .int (nI si), .int x]) (n := 4) (Nat.le_of_ble_eq_true rfl)
  rw [lg_entry_eq]
  generalize (lg_sl ([.ref (a 0), .int (nI si), .int x]) ++ List.replicate (4 - (lg_sl ([.ref (a 0), .int (nI si), .int x])).length) Slot.unset).toArray = ls at hl ⊢
  have hl : lv_has ls 4 [(0, .ref (a 0)), (1, .int (nI si)), (2, .int x)] := hl
  have h200 : t.1 ≤ 200 := hT.2.1
  have h60 : b.1 ≤ 60 := hT.2.2.1
  obtain ⟨g, hg, hle, hlen⟩ := sk_lenOk hT hs
  refine lv_iconst (v := nI 0) hx hb dM_placeOf_0 (by decide) ?_
  refine lv_istore_n (lv' := [(3, .int (nI 0)), (0, .ref (a 0)), (1, .int (nI si)), (2, .int x)]) hx hb dM_placeOf_1 rfl hl (by decide) rfl (fun ls hl => ?_)
  have loop1 : ∀ (nn : Nat) (i : Nat), i ≤ g → (∀ j, j < i → ¬ sk_nm t si j = x) → g - i < nn → ∀ ls : Array Slot, lv_has ls 4 [(3, .int (nI i)), (0, .ref (a 0)), (1, .int (nI si)), (2, .int x)] → W p l e (headSpec wzM_placeOf rzM_placeOf).room s m ([.ref (a 0), .int (nI si), .int x] : List Value).toArray below meth c s.heap [] 0 0 (MQ below (va_Qi (fun r (_ : Unit) => r = sk_place t x si) (fun _ _ => True) (fun _ => False)) ([.ref (a 0), .int (nI si), .int x] : List Value).toArray s 0 0 (fun _ => False)) (F0 m 2 ls []) := by
    intro nn
    induction nn with
    | zero => intro i hi hno hmu; exact absurd hmu (Nat.not_lt_zero _)
    | succ nn ih1 =>
      intro i hi hno hmu ls hl
      refine lv_iload_n hx hb dM_placeOf_2 rfl (lv_at hl 0 rfl) ?_
      refine lv_aload_n hx hb dM_placeOf_3 rfl (lv_at hl 1 rfl) ?_
      refine va_get (D := (dC, dI)) (ci := 4) (v := .ref (a 6)) (C := RM) (T := TM) (N := 20) hx hb hts inM hown hK hP 0 rfl rfl 8 (by decide) (hts _ wfM_29) (fun _ h9 => h9) rfl dM_placeOf_4 ?_
      refine lv_iload_n hx hb dM_placeOf_7 rfl (lv_at hl 2 rfl) ?_
      refine va_iald hx hb hK hP 6 0 rfl rfl (vp_in_nI (show si < 200 by omega) (by decide)) dM_placeOf_8 ?_
      refine lv_topi (fun x8 e8 => ?_)
      rw [nI_clamp (show si < 2 ^ 31 by omega)] at e8
      obtain rfl : x8 = nI g := e8.trans (hle)
      refine lv_icmp_ge (tgt := 35) hx hb dM_placeOf_9 (by decide) (fun c9 => ?_) (fun c9 => ?_)
      · skip
        have n9 : g ≤ i := (nI_leI (a := g) (b := i) (by omega) (by omega)).mp c9
        refine lv_iconst (v := (-1)) hx hb dM_placeOf_35 (by decide) ?_
        exact W.iret (v := (-1)) hx hb hr (fun U9 ht hW => ⟨⟨(-1), (), rfl, sk_place_uniq hT hs (Or.inl ⟨rfl, fun j hj => hno j (by omega)⟩), trivial⟩, hS.F ht⟩) hS.2.2 dM_placeOf_36
      · skip
        have n9 : ¬ g ≤ i := fun z9 => c9 ((nI_leI (a := g) (b := i) (by omega) (by omega)).mpr z9)
        refine lv_aload_n hx hb dM_placeOf_12 rfl (lv_at hl 1 rfl) ?_
        refine va_get (D := (dC, dI)) (ci := 4) (v := .ref (a 7)) (C := RM) (T := TM) (N := 20) hx hb hts inM hown hK hP 0 rfl rfl 9 (by decide) (hts _ wfM_32) (fun _ h9 => h9) rfl dM_placeOf_13 ?_
        refine lv_bipush (v := nI 12) hx hb dM_placeOf_16 (by decide) ?_
        refine lv_iload_n hx hb dM_placeOf_18 rfl (lv_at hl 2 rfl) ?_
        refine lv_imul hx hb dM_placeOf_19 ?_
        refine lv_topi (fun x19 e19 => ?_)
        obtain rfl : x19 = nI (12 * si) := e19.trans (pk_mul _ _)
        refine lv_iload_n hx hb dM_placeOf_20 rfl (lv_at hl 0 rfl) ?_
        refine lv_iadd hx hb dM_placeOf_21 ?_
        refine lv_topi (fun x21 e21 => ?_)
        obtain rfl : x21 = nI ((12 * si) + i) := e21.trans (nI_add _ _)
        refine va_iald hx hb hK hP 7 0 rfl rfl (vp_in_nI (show ((12 * si) + i) < 2400 by omega) (by decide)) dM_placeOf_22 ?_
        refine lv_topi (fun x22 e22 => ?_)
        rw [nI_clamp (show ((12 * si) + i) < 2 ^ 31 by omega)] at e22
        obtain rfl : x22 = sk_nm t si i := e22.trans (hN si hs i (by omega))
        refine lv_iload_n hx hb dM_placeOf_23 rfl (lv_at hl 3 rfl) ?_
        refine lv_icmp_ne (tgt := 29) hx hb dM_placeOf_24 (by decide) (fun c24 => ?_) (fun c24 => ?_)
        · skip
          refine lv_iinc (v := nI (i + 1)) (lv' := [(3, .int (nI (i + 1))), (0, .ref (a 0)), (1, .int (nI si)), (2, .int x)]) hx hb dM_placeOf_29 hl (k := 0) rfl (sk_inc _) (by decide) rfl (fun ls hl => ?_)
          refine lv_goto (tgt := 2) hx hb dM_placeOf_32 (by decide) ?_
          exact ih1 (i + 1) (by omega) (fun j hj => (Nat.lt_or_eq_of_le (Nat.le_of_lt_succ hj)).elim (fun z9 => hno j z9) (fun z9 => by subst z9; exact c24)) (by omega) ls (lv_sub hl [0, 1, 2, 3] rfl)
        · skip
          refine lv_iload_n hx hb dM_placeOf_27 rfl (lv_at hl 0 rfl) ?_
          exact W.iret (v := nI i) hx hb hr (fun U9 ht hW => ⟨⟨nI i, (), rfl, sk_place_uniq hT hs (Or.inr ⟨i, by omega, rfl, c24⟩), trivial⟩, hS.F ht⟩) hS.2.2 dM_placeOf_28
  exact loop1 (g - 0 + 1) 0 (Nat.zero_le _) (fun j hj => absurd hj (Nat.not_lt_zero j)) (Nat.lt_succ_self _) ls (lv_sub hl [0, 1, 2, 3] rfl)
abbrev wzM_shapeFor : List Cond := .code yM_shapeFor cM_shapeFor 7 (some .int) :: sk_W
abbrev rzM_shapeFor : Room := { frames := 1, cells := 0, slots := 0, locals := 24 }
set_option maxHeartbeats 4000000 in
set_option maxRecDepth 100000 in
theorem kM_shapeFor (l : Launch) (dC : Nat → ClassId) (dI : Nat → Nat → Nat) (a : Nat → Nat) (k : Nat → ClassId) (b : sk_Ob) (t : sk_Tr) (f : sk_Fi) (ex : sk_Ex) (lf : sk_F) (th : Int32) (A : Nat → Prop) (x : Int32) (ns : List Int32) (hT : sk_TO b.1 t) (hN : sk_RN t ex.2.1) (hx9 : sk_v b.1 x) (hns : ns.length ≤ 12) (hnd : ns.Nodup) (hin : sk_in12 ns) (hrow : ∀ j, j < ns.length → lf j = ns.getD j 0) : Met l yM_shapeFor wzM_shapeFor rzM_shapeFor (va_Pc [.ref (a 0), .int x, .int (nI ns.length)] (fun U => sk_PM dC dI a k (b, t, f) ex lf th U ∧ va_D A (sk_wM a k (b, t, f) ex lf th))) (va_Qi (fun r (u : sk_S × sk_Ex × sk_F × Int32) => (sk_reach t x ns = none ∧ r = -1 ∧ u = ((b, t, f), ex, lf, th)) ∨ ∃ t2 g na2, sk_reach t x ns = some (t2, g) ∧ r = nI g ∧ u = ((b, t2, f), (ex.1, na2, ex.2.2), lf, th) ∧ sk_RN t2 na2) (fun u U => va_P (dC, dI) vwCl (sk_wM a k u.1 u.2.1 u.2.2.1 u.2.2.2) U.heap ∧ va_D A (sk_wM a k u.1 u.2.1 u.2.2.1 u.2.2.2)) A) 0 0 A := by
  refine Met.ofW (cc := cM_shapeFor) (maxL := 7) (ret := (some .int)) (by decide) rfl ?_
  intro p e s m args below meth c s₁ B hml hv
  obtain ⟨rfl, ⟨hP, hK⟩, hD⟩ := hv
  have hx := B.exec
  have hb := B.bytes
  have hr := B.returns
  have hts : ∀ w ∈ sk_W, w.before ([.ref (a 0), .int x, .int (nI ns.length)] : List Value).toArray s = true := fun w h => atoms_spec (ws := wzM_shapeFor) B.pre w (List.mem_cons_of_mem _ h)
  have hown : s.vm.findClass RM = some m.cls := findClass_of_methodNamed B.named
  have hlocks := B.notSynchronized
  have hS : va_S A s.heap s.heap [] := va_S.rf
  have hP : va_P (dC, dI) vwCl (sk_wMR a k th (nI b.1) b.2.2.1 b.2.2.2.1 ex.1 (nI t.1) t.2.1 t.2.2.1 t.2.2.2.2 ex.2.1 (nI f.1) f.2.1 f.2.2.1 ex.2.2.1 f.2.2.2.1 f.2.2.2.2.1 ex.2.2.2.1 ex.2.2.2.2.1 ex.2.2.2.2.2 lf) s.heap := hP
  have hD : va_D A (sk_wMR a k th (nI b.1) b.2.2.1 b.2.2.2.1 ex.1 (nI t.1) t.2.1 t.2.2.1 t.2.2.2.2 ex.2.1 (nI f.1) f.2.1 f.2.2.1 ex.2.2.1 f.2.2.2.1 f.2.2.2.2.1 ex.2.2.2.1 ex.2.2.2.2.1 ex.2.2.2.2.2 lf) := hD
  have hl := lv_entry ([.ref (a 0), .int x, .int (nI ns.length)]) (n := 7) (Nat.le_of_ble_eq_true rfl)
  rw [lg_entry_eq]
  generalize (lg_sl ([.ref (a 0), .int x, .int (nI ns.length)]) ++ List.replicate (7 - (lg_sl ([.ref (a 0), .int x, .int (nI ns.length)])).length) Slot.unset).toArray = ls at hl ⊢
  have hl : lv_has ls 7 [(0, .ref (a 0)), (1, .int x), (2, .int (nI ns.length))] := hl
  have h200 : t.1 ≤ 200 := hT.2.1
  have h60 : b.1 ≤ 60 := hT.2.2.1
  refine lv_aload_n hx hb dM_shapeFor_0 rfl (lv_at hl 0 rfl) ?_
  refine lv_iload_n hx hb dM_shapeFor_1 rfl (lv_at hl 1 rfl) ?_
  refine va_calli (va_runV (As := [.int x]) (rest := []) ⟨hx, hb, hml, hown, hts⟩ (kM_empty l dC dI a k b t f ex lf th x hT) (cwV 1 hts (sk_gV wmM_68 wiM_empty wsM_empty wnM wcM_empty) rfl rfl rfl (by decide +kernel) ⟨Nat.le_of_ble_eq_true rfl, Nat.le_of_ble_eq_true rfl⟩) ⟨sk_blindM _, va_recv hK hP (ci := 4) (q0 := 0) rfl rfl, fun U hU hW => ⟨rfl, sk_atM (S := (b, t, f)) (ex := ex) (lf := lf) (th := th) hP hK hU hW⟩⟩ rfl rfl hl.1 rfl (lv_room (Nat.le_of_ble_eq_true rfl)) dM_shapeFor_2 ⟨Nat.le_of_ble_eq_true rfl, Nat.le_of_ble_eq_true rfl⟩) hS (fun _ _ h => h.elim) (fun _ h => h.elim) (fun r2 u2 U9 H locs ht hvm w2 hB hz hk hS => ?_)
  have hP : va_P (dC, dI) vwCl (sk_wMR a k th (nI b.1) b.2.2.1 b.2.2.2.1 ex.1 (nI t.1) t.2.1 t.2.2.1 t.2.2.2.2 ex.2.1 (nI f.1) f.2.1 f.2.2.1 ex.2.2.1 f.2.2.2.1 f.2.2.2.2.1 ex.2.2.2.1 ex.2.2.2.2.1 ex.2.2.2.2.2 lf) H := hP.kept (fun j q hq => hk q.1 ((hP j q hq).lt) (fun h => h))
  clear hk hB ht
  rcases sk_em_spec t x with ⟨hem, -⟩ | ⟨q0, hq0, hem, ho0, -⟩
  · skip
    obtain rfl : r2 = -1 := w2.trans hem
    refine lv_istore_n (lv' := [(3, .int (-1)), (0, .ref (a 0)), (1, .int x), (2, .int (nI ns.length))]) hx hb dM_shapeFor_5 rfl hl (by decide) rfl (fun ls hl => ?_)
    refine lv_iconst (v := nI 0) hx hb dM_shapeFor_6 (by decide) ?_
    refine lv_istore (lv' := [(4, .int (nI 0)), (3, .int (-1)), (0, .ref (a 0)), (1, .int x), (2, .int (nI ns.length))]) hx hb dM_shapeFor_7 hl (by decide) rfl (fun ls hl => ?_)
    refine lv_iload_n hx hb dM_shapeFor_9 rfl (lv_at hl 1 rfl) ?_
    refine lv_istore (lv' := [(5, .int (-1)), (4, .int (nI 0)), (3, .int (-1)), (0, .ref (a 0)), (1, .int x), (2, .int (nI ns.length))]) hx hb dM_shapeFor_10 hl (by decide) rfl (fun ls hl => ?_)
    refine lv_iload hx hb dM_shapeFor_12 (lv_at hl 0 rfl) ?_
    refine lv_if_lt (tgt := 52) hx hb dM_shapeFor_14 (by decide) (fun _ => ?_) (fun q => absurd (by decide) q)
    refine lv_iload_n hx hb dM_shapeFor_52 rfl (lv_at hl 5 rfl) ?_
    refine lv_iload hx hb dM_shapeFor_53 (lv_at hl 1 rfl) ?_
    refine lv_isub hx hb dM_shapeFor_55 ?_
    refine lv_topi (fun x55 e55 => ?_)
    obtain rfl : x55 = nI (ns.length - 0) := e55.trans (pk_sub (by omega))
    refine lv_iload_n hx hb dM_shapeFor_56 rfl (lv_at hl 2 rfl) ?_
    refine lv_if_ge (tgt := 64) hx hb dM_shapeFor_57 (by decide) (fun q => absurd q (by decide)) (fun _ => ?_)
    refine lv_iconst (v := nI 1) hx hb dM_shapeFor_60 (by decide) ?_
    refine lv_goto (tgt := 65) hx hb dM_shapeFor_61 (by decide) ?_
    refine lv_iadd hx hb dM_shapeFor_65 ?_
    refine lv_topi (fun x65 e65 => ?_)
    obtain rfl : x65 = nI ((ns.length - 0) + 1) := e65.trans (nI_add _ _)
    refine lv_istore (lv' := [(6, .int (nI ((ns.length - 0) + 1))), (5, .int (-1)), (4, .int (nI 0)), (3, .int (-1)), (0, .ref (a 0)), (1, .int x), (2, .int (nI ns.length))]) hx hb dM_shapeFor_66 hl (by decide) rfl (fun ls hl => ?_)
    refine lv_aload_n hx hb dM_shapeFor_68 rfl (lv_at hl 4 rfl) ?_
    refine va_get (D := (dC, dI)) (ci := 4) (v := .int (nI t.1)) (C := RM) (T := TM) (N := 20) hx hb hts inM hown hK hP 0 rfl rfl 5 (by decide) (hts _ wfM_19) (fun _ h9 => h9) rfl dM_shapeFor_69 ?_
    refine lv_iload hx hb dM_shapeFor_72 (lv_at hl 0 rfl) ?_
    refine lv_iadd hx hb dM_shapeFor_74 ?_
    refine lv_topi (fun x74 e74 => ?_)
    obtain rfl : x74 = nI (t.1 + ((ns.length - 0) + 1)) := e74.trans (nI_add _ _)
    refine lv_sipush (v := nI 200) hx hb dM_shapeFor_75 (by decide) ?_
    refine lv_icmp_le (tgt := 83) hx hb dM_shapeFor_78 (by decide) (fun c78 => ?_) (fun c78 => ?_)
    · skip
      have n78 : (t.1 + ((ns.length - 0) + 1)) ≤ 200 := (nI_leI (a := (t.1 + ((ns.length - 0) + 1))) (b := 200) (by omega) (by omega)).mp c78
      refine lv_iload_n hx hb dM_shapeFor_83 rfl (lv_at hl 3 rfl) ?_
      refine lv_if_ge (tgt := 93) hx hb dM_shapeFor_84 (by decide) (fun q => absurd q (by decide)) (fun _ => ?_)
      refine lv_aload_n hx hb dM_shapeFor_87 rfl (lv_at hl 4 rfl) ?_
      refine lv_iload_n hx hb dM_shapeFor_88 rfl (lv_at hl 5 rfl) ?_
      refine va_calli (va_runV (As := [.int x]) (rest := []) ⟨hx, hb, hml, hown, hts⟩ (kM_makeEmpty l dC dI a k b t f ex lf th A x (by omega)) (cwV 1 hts (sk_gV wmM_76 wiM_makeEmpty wsM_makeEmpty wnM wcM_makeEmpty) rfl rfl rfl (by decide +kernel) ⟨Nat.le_of_ble_eq_true rfl, Nat.le_of_ble_eq_true rfl⟩) ⟨sk_blindMD _, va_recv hK hP (ci := 4) (q0 := 0) rfl rfl, fun U hU hW => ⟨rfl, sk_atM (S := (b, t, f)) (ex := ex) (lf := lf) (th := th) hP hK hU hW, hD⟩⟩ rfl rfl hl.1 rfl (lv_room (Nat.le_of_ble_eq_true rfl)) dM_shapeFor_89 ⟨Nat.le_of_ble_eq_true rfl, Nat.le_of_ble_eq_true rfl⟩) hS (fun _ _ h => h) (fun _ h => h) (fun r89 u89 U9 H locs ht hvm w89 hB hz hk hS => ?_)
      obtain ⟨hP, hD⟩ := hB
      rw [ht] at hP
      obtain ⟨rfl, rfl⟩ := w89
      have hP : va_P (dC, dI) vwCl (sk_wMR a k th (nI b.1) b.2.2.1 b.2.2.2.1 ex.1 (nI (sk_make t x (-1) (-1) 0).1) ((sk_make t x (-1) (-1) 0).2.1) ((sk_make t x (-1) (-1) 0).2.2.1) ((sk_make t x (-1) (-1) 0).2.2.2.2) ex.2.1 (nI f.1) f.2.1 f.2.2.1 ex.2.2.1 f.2.2.2.1 f.2.2.2.2.1 ex.2.2.2.1 ex.2.2.2.2.1 ex.2.2.2.2.2 lf) H := hP
      have hD : va_D A (sk_wMR a k th (nI b.1) b.2.2.1 b.2.2.2.1 ex.1 (nI (sk_make t x (-1) (-1) 0).1) ((sk_make t x (-1) (-1) 0).2.1) ((sk_make t x (-1) (-1) 0).2.2.1) ((sk_make t x (-1) (-1) 0).2.2.2.2) ex.2.1 (nI f.1) f.2.1 f.2.2.1 ex.2.2.1 f.2.2.2.1 f.2.2.2.2.1 ex.2.2.2.1 ex.2.2.2.2.1 ex.2.2.2.2.2 lf) := hD
      refine lv_istore_n (lv' := [(3, .int (nI t.1)), (6, .int (nI ((ns.length - 0) + 1))), (5, .int (-1)), (4, .int (nI 0)), (0, .ref (a 0)), (1, .int x), (2, .int (nI ns.length))]) hx hb dM_shapeFor_92 rfl hl (by decide) rfl (fun ls hl => ?_)
      have loop2 : ∀ (nn : Nat) (j q2 : Nat) (t2 : sk_Tr) (n2 : sk_F), j ≤ ns.length → q2 < t2.1 → t2.1 + (ns.length - j) ≤ 200 → sk_reach t x ns = some (sk_mk t2 q2 (ns.drop j)) → sk_TO b.1 t2 → sk_RN t2 n2 → (sk_names t2 q2 ++ ns.drop j).Nodup → sk_in12 (sk_names t2 q2 ++ ns.drop j) → ns.length - j < nn → ∀ (H : Heap) (locs : List Loc), va_P (dC, dI) vwCl (sk_wMR a k th (nI b.1) b.2.2.1 b.2.2.2.1 ((ex.1, n2, ex.2.2).1) (nI t2.1) t2.2.1 t2.2.2.1 t2.2.2.2.2 ((ex.1, n2, ex.2.2).2.1) (nI f.1) f.2.1 f.2.2.1 ((ex.1, n2, ex.2.2).2.2.1) f.2.2.2.1 f.2.2.2.2.1 ((ex.1, n2, ex.2.2).2.2.2.1) ((ex.1, n2, ex.2.2).2.2.2.2.1) ((ex.1, n2, ex.2.2).2.2.2.2.2) lf) H → va_D A (sk_wMR a k th (nI b.1) b.2.2.1 b.2.2.2.1 ((ex.1, n2, ex.2.2).1) (nI t2.1) t2.2.1 t2.2.2.1 t2.2.2.2.2 ((ex.1, n2, ex.2.2).2.1) (nI f.1) f.2.1 f.2.2.1 ((ex.1, n2, ex.2.2).2.2.1) f.2.2.2.1 f.2.2.2.2.1 ((ex.1, n2, ex.2.2).2.2.2.1) ((ex.1, n2, ex.2.2).2.2.2.2.1) ((ex.1, n2, ex.2.2).2.2.2.2.2) lf) → va_S A s.heap H locs → ∀ ls : Array Slot, lv_has ls 7 [(4, .int (nI j)), (3, .int (nI q2)), (0, .ref (a 0)), (2, .int (nI ns.length))] → W p l e (headSpec wzM_shapeFor rzM_shapeFor).room s m ([.ref (a 0), .int x, .int (nI ns.length)] : List Value).toArray below meth c H locs 0 0 (MQ below (va_Qi (fun r (u : sk_S × sk_Ex × sk_F × Int32) => (sk_reach t x ns = none ∧ r = -1 ∧ u = ((b, t, f), ex, lf, th)) ∨ ∃ t2 g na2, sk_reach t x ns = some (t2, g) ∧ r = nI g ∧ u = ((b, t2, f), (ex.1, na2, ex.2.2), lf, th) ∧ sk_RN t2 na2) (fun u U => va_P (dC, dI) vwCl (sk_wM a k u.1 u.2.1 u.2.2.1 u.2.2.2) U.heap ∧ va_D A (sk_wM a k u.1 u.2.1 u.2.2.1 u.2.2.2)) A) ([.ref (a 0), .int x, .int (nI ns.length)] : List Value).toArray s 0 0 A) (F0 m 93 ls []) := by
        intro nn
        induction nn with
        | zero => intro j q2 t2 n2 hj hq2 hcap hm hT2 hN2 hnd2 hin2 hmu; exact absurd hmu (Nat.not_lt_zero _)
        | succ nn ih2 =>
          intro j q2 t2 n2 hj hq2 hcap hm hT2 hN2 hnd2 hin2 hmu H locs hP hD hS ls hl
          refine lv_iload hx hb dM_shapeFor_93 (lv_at hl 0 rfl) ?_
          refine lv_iload_n hx hb dM_shapeFor_95 rfl (lv_at hl 3 rfl) ?_
          refine lv_icmp_ge (tgt := 118) hx hb dM_shapeFor_96 (by decide) (fun c96 => ?_) (fun c96 => ?_)
          · skip
            have n96 : ns.length ≤ j := (nI_leI (a := ns.length) (b := j) (by omega) (by omega)).mp c96
            refine lv_iload_n hx hb dM_shapeFor_118 rfl (lv_at hl 1 rfl) ?_
            exact W.iret (v := nI q2) hx hb hr (fun U9 ht hW => ⟨⟨nI q2, ((b, t2, f), (ex.1, n2, ex.2.2), lf, th), rfl, Or.inr ⟨t2, q2, n2, by rw [hm, sk_mk_end n96], rfl, rfl, hN2⟩, sk_endw ht hP hD⟩, hS.F ht⟩) hS.2.2 dM_shapeFor_119
          · skip
            have n96 : ¬ ns.length ≤ j := fun z9 => c96 ((nI_leI (a := ns.length) (b := j) (by omega) (by omega)).mpr z9)
            refine lv_aload_n hx hb dM_shapeFor_99 rfl (lv_at hl 2 rfl) ?_
            refine lv_iload_n hx hb dM_shapeFor_100 rfl (lv_at hl 1 rfl) ?_
            refine lv_aload_n hx hb dM_shapeFor_101 rfl (lv_at hl 2 rfl) ?_
            refine va_get (D := (dC, dI)) (ci := 4) (v := .ref (a 16)) (C := RM) (T := TM) (N := 20) hx hb hts inM hown hK hP 0 rfl rfl 19 (by decide) (hts _ wfM_59) (fun _ h9 => h9) rfl dM_shapeFor_102 ?_
            refine lv_iload hx hb dM_shapeFor_105 (lv_at hl 0 rfl) ?_
            refine va_iald hx hb hK hP 16 0 rfl rfl (vp_in_nI (show j < 12 by omega) (by decide)) dM_shapeFor_107 ?_
            refine lv_topi (fun x107 e107 => ?_)
            rw [nI_clamp (show j < 2 ^ 31 by omega)] at e107
            obtain rfl : x107 = ns.getD j 0 := e107.trans (hrow j (by omega))
            obtain ⟨z1, z2, z3, z4⟩ := sk_step hT2 hq2 (by omega) (by omega) hnd2 hin2
            refine va_calli (va_runV (As := [.int (nI q2), .int (ns.getD j 0)]) (rest := []) ⟨hx, hb, hml, hown, hts⟩ (kM_makeChild l dC dI a k b t2 f (ex.1, n2, ex.2.2) lf th A q2 (ns.getD j 0) hT2 hN2 hq2 (by omega) z4) (cwV 2 hts (sk_gV wmM_79 wiM_makeChild wsM_makeChild wnM wcM_makeChild) rfl rfl rfl (by decide +kernel) ⟨Nat.le_of_ble_eq_true rfl, Nat.le_of_ble_eq_true rfl⟩) ⟨sk_blindMD _, va_recv hK hP (ci := 4) (q0 := 0) rfl rfl, fun U hU hW => ⟨rfl, sk_atM (S := (b, t2, f)) (ex := (ex.1, n2, ex.2.2)) (lf := lf) (th := th) hP hK hU hW, hD⟩⟩ rfl rfl hl.1 rfl (lv_room (Nat.le_of_ble_eq_true rfl)) dM_shapeFor_108 ⟨Nat.le_of_ble_eq_true rfl, Nat.le_of_ble_eq_true rfl⟩) hS (fun _ _ h => h) (fun _ h => h) (fun r108 u108 U9 H locs ht hvm w108 hB hz hk hS => ?_)
            obtain ⟨hP, hD⟩ := hB
            rw [ht] at hP
            obtain ⟨rfl, na3, rfl, hN3⟩ := w108
            have hP : va_P (dC, dI) vwCl (sk_wMR a k th (nI b.1) b.2.2.1 b.2.2.2.1 ((ex.1, na3, ex.2.2).1) (nI (sk_grow1 t2 q2 (ns.getD j 0)).1) ((sk_grow1 t2 q2 (ns.getD j 0)).2.1) ((sk_grow1 t2 q2 (ns.getD j 0)).2.2.1) ((sk_grow1 t2 q2 (ns.getD j 0)).2.2.2.2) ((ex.1, na3, ex.2.2).2.1) (nI f.1) f.2.1 f.2.2.1 ((ex.1, na3, ex.2.2).2.2.1) f.2.2.2.1 f.2.2.2.2.1 ((ex.1, na3, ex.2.2).2.2.2.1) ((ex.1, na3, ex.2.2).2.2.2.2.1) ((ex.1, na3, ex.2.2).2.2.2.2.2) lf) H := hP
            have hD : va_D A (sk_wMR a k th (nI b.1) b.2.2.1 b.2.2.2.1 ((ex.1, na3, ex.2.2).1) (nI (sk_grow1 t2 q2 (ns.getD j 0)).1) ((sk_grow1 t2 q2 (ns.getD j 0)).2.1) ((sk_grow1 t2 q2 (ns.getD j 0)).2.2.1) ((sk_grow1 t2 q2 (ns.getD j 0)).2.2.2.2) ((ex.1, na3, ex.2.2).2.1) (nI f.1) f.2.1 f.2.2.1 ((ex.1, na3, ex.2.2).2.2.1) f.2.2.2.1 f.2.2.2.2.1 ((ex.1, na3, ex.2.2).2.2.2.1) ((ex.1, na3, ex.2.2).2.2.2.2.1) ((ex.1, na3, ex.2.2).2.2.2.2.2) lf) := hD
            refine lv_istore_n (lv' := [(3, .int (nI t2.1)), (4, .int (nI j)), (0, .ref (a 0)), (2, .int (nI ns.length))]) hx hb dM_shapeFor_111 rfl hl (by decide) rfl (fun ls hl => ?_)
            refine lv_iinc (v := nI (j + 1)) (lv' := [(4, .int (nI (j + 1))), (3, .int (nI t2.1)), (0, .ref (a 0)), (2, .int (nI ns.length))]) hx hb dM_shapeFor_112 hl (k := 1) rfl (sk_inc _) (by decide) rfl (fun ls hl => ?_)
            refine lv_goto (tgt := 93) hx hb dM_shapeFor_115 (by decide) ?_
            exact ih2 (j + 1) t2.1 (sk_grow1 t2 q2 (ns.getD j 0)) na3 (by omega) (Nat.lt_succ_self _) ((show t2.1 + 1 + (ns.length - (j + 1)) ≤ 200 by omega)) (by rw [hm, sk_mk_step (by omega)]) (z1) (hN3) (z2) (z3) (by omega) _ _ hP hD hS ls (lv_sub hl [0, 1, 2, 3] rfl)
      exact loop2 (ns.length - 0 + 1) 0 t.1 (sk_make t x (-1) (-1) 0) ex.2.1 (by omega) (Nat.lt_succ_self _) ((show t.1 + 1 + (ns.length - 0) ≤ 200 by omega)) (sk_reach_s1 hem (by omega)) (sk_TO_empty hT (by omega) hx9) (sk_RN_empty hT hN) (by rw [sk_names_m]; exact hnd) (by rw [sk_names_m]; exact hin) (Nat.lt_succ_self _) _ _ hP hD hS ls (lv_sub hl [3, 0, 4, 6] rfl)
    · skip
      have n78 : ¬ (t.1 + ((ns.length - 0) + 1)) ≤ 200 := fun z9 => c78 ((nI_leI (a := (t.1 + ((ns.length - 0) + 1))) (b := 200) (by omega) (by omega)).mpr z9)
      refine lv_iconst (v := (-1)) hx hb dM_shapeFor_81 (by decide) ?_
      exact W.iret (v := (-1)) hx hb hr (fun U9 ht hW => ⟨⟨(-1), ((b, t, f), ex, lf, th), rfl, Or.inl ⟨sk_reach_n1 hem (by omega), rfl, rfl⟩, sk_endw ht hP hD⟩, hS.F ht⟩) hS.2.2 dM_shapeFor_82
  · skip
    obtain rfl : r2 = nI q0 := w2.trans hem
    refine lv_istore_n (lv' := [(3, .int (nI q0)), (0, .ref (a 0)), (1, .int x), (2, .int (nI ns.length))]) hx hb dM_shapeFor_5 rfl hl (by decide) rfl (fun ls hl => ?_)
    refine lv_iconst (v := nI 0) hx hb dM_shapeFor_6 (by decide) ?_
    refine lv_istore (lv' := [(4, .int (nI 0)), (3, .int (nI q0)), (0, .ref (a 0)), (1, .int x), (2, .int (nI ns.length))]) hx hb dM_shapeFor_7 hl (by decide) rfl (fun ls hl => ?_)
    refine lv_iload_n hx hb dM_shapeFor_9 rfl (lv_at hl 1 rfl) ?_
    refine lv_istore (lv' := [(5, .int (nI q0)), (4, .int (nI 0)), (3, .int (nI q0)), (0, .ref (a 0)), (1, .int x), (2, .int (nI ns.length))]) hx hb dM_shapeFor_10 hl (by decide) rfl (fun ls hl => ?_)
    have loop1 : ∀ (nn : Nat) (i q : Nat), i ≤ ns.length → q < t.1 → sk_down t q (ns.drop i) = sk_down t q0 ns → sk_names t q ++ ns.drop i = ns → ns.length - i < nn → ∀ (H : Heap) (locs : List Loc), va_P (dC, dI) vwCl (sk_wMR a k th (nI b.1) b.2.2.1 b.2.2.2.1 ex.1 (nI t.1) t.2.1 t.2.2.1 t.2.2.2.2 ex.2.1 (nI f.1) f.2.1 f.2.2.1 ex.2.2.1 f.2.2.2.1 f.2.2.2.2.1 ex.2.2.2.1 ex.2.2.2.2.1 ex.2.2.2.2.2 lf) H → va_D A (sk_wMR a k th (nI b.1) b.2.2.1 b.2.2.2.1 ex.1 (nI t.1) t.2.1 t.2.2.1 t.2.2.2.2 ex.2.1 (nI f.1) f.2.1 f.2.2.1 ex.2.2.1 f.2.2.2.1 f.2.2.2.2.1 ex.2.2.2.1 ex.2.2.2.2.1 ex.2.2.2.2.2 lf) → va_S A s.heap H locs → ∀ ls : Array Slot, lv_has ls 7 [(5, .int (nI q)), (4, .int (nI i)), (3, .int (nI q)), (0, .ref (a 0)), (1, .int x), (2, .int (nI ns.length))] → W p l e (headSpec wzM_shapeFor rzM_shapeFor).room s m ([.ref (a 0), .int x, .int (nI ns.length)] : List Value).toArray below meth c H locs 0 0 (MQ below (va_Qi (fun r (u : sk_S × sk_Ex × sk_F × Int32) => (sk_reach t x ns = none ∧ r = -1 ∧ u = ((b, t, f), ex, lf, th)) ∨ ∃ t2 g na2, sk_reach t x ns = some (t2, g) ∧ r = nI g ∧ u = ((b, t2, f), (ex.1, na2, ex.2.2), lf, th) ∧ sk_RN t2 na2) (fun u U => va_P (dC, dI) vwCl (sk_wM a k u.1 u.2.1 u.2.2.1 u.2.2.2) U.heap ∧ va_D A (sk_wM a k u.1 u.2.1 u.2.2.1 u.2.2.2)) A) ([.ref (a 0), .int x, .int (nI ns.length)] : List Value).toArray s 0 0 A) (F0 m 12 ls []) := by
      intro nn
      induction nn with
      | zero => intro i q hi hq hd hnm hmu; exact absurd hmu (Nat.not_lt_zero _)
      | succ nn ih1 =>
        intro i q hi hq hd hnm hmu H locs hP hD hS ls hl
        refine lv_iload hx hb dM_shapeFor_12 (lv_at hl 0 rfl) ?_
        refine lv_if_lt (tgt := 52) hx hb dM_shapeFor_14 (by decide) (fun c14 => ?_) (fun c14 => ?_)
        · skip
          have n14 : q < 0 := (nI_ltI (a := q) (b := 0) (by omega) (by omega)).mp c14
          omega
        · skip
          have n14 : ¬ q < 0 := fun z9 => c14 ((nI_ltI (a := q) (b := 0) (by omega) (by omega)).mpr z9)
          refine lv_iload hx hb dM_shapeFor_17 (lv_at hl 1 rfl) ?_
          refine lv_iload_n hx hb dM_shapeFor_19 rfl (lv_at hl 5 rfl) ?_
          refine lv_icmp_ge (tgt := 52) hx hb dM_shapeFor_20 (by decide) (fun c20 => ?_) (fun c20 => ?_)
          · skip
            have n20 : ns.length ≤ i := (nI_leI (a := ns.length) (b := i) (by omega) (by omega)).mp c20
            refine lv_iload_n hx hb dM_shapeFor_52 rfl (lv_at hl 5 rfl) ?_
            refine lv_iload hx hb dM_shapeFor_53 (lv_at hl 1 rfl) ?_
            refine lv_isub hx hb dM_shapeFor_55 ?_
            refine lv_topi (fun x55 e55 => ?_)
            obtain rfl : x55 = nI (ns.length - i) := e55.trans (pk_sub (by omega))
            refine lv_iload_n hx hb dM_shapeFor_56 rfl (lv_at hl 2 rfl) ?_
            refine lv_if_ge (tgt := 64) hx hb dM_shapeFor_57 (by decide) (fun c57 => ?_) (fun c57 => ?_)
            · skip
              have n57 : 0 ≤ q := (nI_leI (a := 0) (b := q) (by omega) (by omega)).mp c57
              refine lv_iconst (v := nI 0) hx hb dM_shapeFor_64 (by decide) ?_
              refine lv_iadd hx hb dM_shapeFor_65 ?_
              refine lv_topi (fun x65 e65 => ?_)
              obtain rfl : x65 = nI ((ns.length - i) + 0) := e65.trans (nI_add _ _)
              refine lv_istore (lv' := [(6, .int (nI ((ns.length - i) + 0))), (5, .int (nI q)), (4, .int (nI i)), (3, .int (nI q)), (0, .ref (a 0)), (1, .int x), (2, .int (nI ns.length))]) hx hb dM_shapeFor_66 hl (by decide) rfl (fun ls hl => ?_)
              refine lv_aload_n hx hb dM_shapeFor_68 rfl (lv_at hl 4 rfl) ?_
              refine va_get (D := (dC, dI)) (ci := 4) (v := .int (nI t.1)) (C := RM) (T := TM) (N := 20) hx hb hts inM hown hK hP 0 rfl rfl 5 (by decide) (hts _ wfM_19) (fun _ h9 => h9) rfl dM_shapeFor_69 ?_
              refine lv_iload hx hb dM_shapeFor_72 (lv_at hl 0 rfl) ?_
              refine lv_iadd hx hb dM_shapeFor_74 ?_
              refine lv_topi (fun x74 e74 => ?_)
              obtain rfl : x74 = nI (t.1 + ((ns.length - i) + 0)) := e74.trans (nI_add _ _)
              refine lv_sipush (v := nI 200) hx hb dM_shapeFor_75 (by decide) ?_
              refine lv_icmp_le (tgt := 83) hx hb dM_shapeFor_78 (by decide) (fun c78 => ?_) (fun c78 => ?_)
              · skip
                have n78 : (t.1 + ((ns.length - i) + 0)) ≤ 200 := (nI_leI (a := (t.1 + ((ns.length - i) + 0))) (b := 200) (by omega) (by omega)).mp c78
                refine lv_iload_n hx hb dM_shapeFor_83 rfl (lv_at hl 3 rfl) ?_
                refine lv_if_ge (tgt := 93) hx hb dM_shapeFor_84 (by decide) (fun c84 => ?_) (fun c84 => ?_)
                · skip
                  have n84 : 0 ≤ q := (nI_leI (a := 0) (b := q) (by omega) (by omega)).mp c84
                  have loop2 : ∀ (nn : Nat) (j q2 : Nat) (t2 : sk_Tr) (n2 : sk_F), j ≤ ns.length → q2 < t2.1 → t2.1 + (ns.length - j) ≤ 200 → sk_reach t x ns = some (sk_mk t2 q2 (ns.drop j)) → sk_TO b.1 t2 → sk_RN t2 n2 → (sk_names t2 q2 ++ ns.drop j).Nodup → sk_in12 (sk_names t2 q2 ++ ns.drop j) → ns.length - j < nn → ∀ (H : Heap) (locs : List Loc), va_P (dC, dI) vwCl (sk_wMR a k th (nI b.1) b.2.2.1 b.2.2.2.1 ((ex.1, n2, ex.2.2).1) (nI t2.1) t2.2.1 t2.2.2.1 t2.2.2.2.2 ((ex.1, n2, ex.2.2).2.1) (nI f.1) f.2.1 f.2.2.1 ((ex.1, n2, ex.2.2).2.2.1) f.2.2.2.1 f.2.2.2.2.1 ((ex.1, n2, ex.2.2).2.2.2.1) ((ex.1, n2, ex.2.2).2.2.2.2.1) ((ex.1, n2, ex.2.2).2.2.2.2.2) lf) H → va_D A (sk_wMR a k th (nI b.1) b.2.2.1 b.2.2.2.1 ((ex.1, n2, ex.2.2).1) (nI t2.1) t2.2.1 t2.2.2.1 t2.2.2.2.2 ((ex.1, n2, ex.2.2).2.1) (nI f.1) f.2.1 f.2.2.1 ((ex.1, n2, ex.2.2).2.2.1) f.2.2.2.1 f.2.2.2.2.1 ((ex.1, n2, ex.2.2).2.2.2.1) ((ex.1, n2, ex.2.2).2.2.2.2.1) ((ex.1, n2, ex.2.2).2.2.2.2.2) lf) → va_S A s.heap H locs → ∀ ls : Array Slot, lv_has ls 7 [(4, .int (nI j)), (3, .int (nI q2)), (0, .ref (a 0)), (2, .int (nI ns.length))] → W p l e (headSpec wzM_shapeFor rzM_shapeFor).room s m ([.ref (a 0), .int x, .int (nI ns.length)] : List Value).toArray below meth c H locs 0 0 (MQ below (va_Qi (fun r (u : sk_S × sk_Ex × sk_F × Int32) => (sk_reach t x ns = none ∧ r = -1 ∧ u = ((b, t, f), ex, lf, th)) ∨ ∃ t2 g na2, sk_reach t x ns = some (t2, g) ∧ r = nI g ∧ u = ((b, t2, f), (ex.1, na2, ex.2.2), lf, th) ∧ sk_RN t2 na2) (fun u U => va_P (dC, dI) vwCl (sk_wM a k u.1 u.2.1 u.2.2.1 u.2.2.2) U.heap ∧ va_D A (sk_wM a k u.1 u.2.1 u.2.2.1 u.2.2.2)) A) ([.ref (a 0), .int x, .int (nI ns.length)] : List Value).toArray s 0 0 A) (F0 m 93 ls []) := by
                    intro nn
                    induction nn with
                    | zero => intro j q2 t2 n2 hj hq2 hcap hm hT2 hN2 hnd2 hin2 hmu; exact absurd hmu (Nat.not_lt_zero _)
                    | succ nn ih2 =>
                      intro j q2 t2 n2 hj hq2 hcap hm hT2 hN2 hnd2 hin2 hmu H locs hP hD hS ls hl
                      refine lv_iload hx hb dM_shapeFor_93 (lv_at hl 0 rfl) ?_
                      refine lv_iload_n hx hb dM_shapeFor_95 rfl (lv_at hl 3 rfl) ?_
                      refine lv_icmp_ge (tgt := 118) hx hb dM_shapeFor_96 (by decide) (fun c96 => ?_) (fun c96 => ?_)
                      · skip
                        have n96 : ns.length ≤ j := (nI_leI (a := ns.length) (b := j) (by omega) (by omega)).mp c96
                        refine lv_iload_n hx hb dM_shapeFor_118 rfl (lv_at hl 1 rfl) ?_
                        exact W.iret (v := nI q2) hx hb hr (fun U9 ht hW => ⟨⟨nI q2, ((b, t2, f), (ex.1, n2, ex.2.2), lf, th), rfl, Or.inr ⟨t2, q2, n2, by rw [hm, sk_mk_end n96], rfl, rfl, hN2⟩, sk_endw ht hP hD⟩, hS.F ht⟩) hS.2.2 dM_shapeFor_119
                      · skip
                        have n96 : ¬ ns.length ≤ j := fun z9 => c96 ((nI_leI (a := ns.length) (b := j) (by omega) (by omega)).mpr z9)
                        refine lv_aload_n hx hb dM_shapeFor_99 rfl (lv_at hl 2 rfl) ?_
                        refine lv_iload_n hx hb dM_shapeFor_100 rfl (lv_at hl 1 rfl) ?_
                        refine lv_aload_n hx hb dM_shapeFor_101 rfl (lv_at hl 2 rfl) ?_
                        refine va_get (D := (dC, dI)) (ci := 4) (v := .ref (a 16)) (C := RM) (T := TM) (N := 20) hx hb hts inM hown hK hP 0 rfl rfl 19 (by decide) (hts _ wfM_59) (fun _ h9 => h9) rfl dM_shapeFor_102 ?_
                        refine lv_iload hx hb dM_shapeFor_105 (lv_at hl 0 rfl) ?_
                        refine va_iald hx hb hK hP 16 0 rfl rfl (vp_in_nI (show j < 12 by omega) (by decide)) dM_shapeFor_107 ?_
                        refine lv_topi (fun x107 e107 => ?_)
                        rw [nI_clamp (show j < 2 ^ 31 by omega)] at e107
                        obtain rfl : x107 = ns.getD j 0 := e107.trans (hrow j (by omega))
                        obtain ⟨z1, z2, z3, z4⟩ := sk_step hT2 hq2 (by omega) (by omega) hnd2 hin2
                        refine va_calli (va_runV (As := [.int (nI q2), .int (ns.getD j 0)]) (rest := []) ⟨hx, hb, hml, hown, hts⟩ (kM_makeChild l dC dI a k b t2 f (ex.1, n2, ex.2.2) lf th A q2 (ns.getD j 0) hT2 hN2 hq2 (by omega) z4) (cwV 2 hts (sk_gV wmM_79 wiM_makeChild wsM_makeChild wnM wcM_makeChild) rfl rfl rfl (by decide +kernel) ⟨Nat.le_of_ble_eq_true rfl, Nat.le_of_ble_eq_true rfl⟩) ⟨sk_blindMD _, va_recv hK hP (ci := 4) (q0 := 0) rfl rfl, fun U hU hW => ⟨rfl, sk_atM (S := (b, t2, f)) (ex := (ex.1, n2, ex.2.2)) (lf := lf) (th := th) hP hK hU hW, hD⟩⟩ rfl rfl hl.1 rfl (lv_room (Nat.le_of_ble_eq_true rfl)) dM_shapeFor_108 ⟨Nat.le_of_ble_eq_true rfl, Nat.le_of_ble_eq_true rfl⟩) hS (fun _ _ h => h) (fun _ h => h) (fun r108 u108 U9 H locs ht hvm w108 hB hz hk hS => ?_)
                        obtain ⟨hP, hD⟩ := hB
                        rw [ht] at hP
                        obtain ⟨rfl, na3, rfl, hN3⟩ := w108
                        have hP : va_P (dC, dI) vwCl (sk_wMR a k th (nI b.1) b.2.2.1 b.2.2.2.1 ((ex.1, na3, ex.2.2).1) (nI (sk_grow1 t2 q2 (ns.getD j 0)).1) ((sk_grow1 t2 q2 (ns.getD j 0)).2.1) ((sk_grow1 t2 q2 (ns.getD j 0)).2.2.1) ((sk_grow1 t2 q2 (ns.getD j 0)).2.2.2.2) ((ex.1, na3, ex.2.2).2.1) (nI f.1) f.2.1 f.2.2.1 ((ex.1, na3, ex.2.2).2.2.1) f.2.2.2.1 f.2.2.2.2.1 ((ex.1, na3, ex.2.2).2.2.2.1) ((ex.1, na3, ex.2.2).2.2.2.2.1) ((ex.1, na3, ex.2.2).2.2.2.2.2) lf) H := hP
                        have hD : va_D A (sk_wMR a k th (nI b.1) b.2.2.1 b.2.2.2.1 ((ex.1, na3, ex.2.2).1) (nI (sk_grow1 t2 q2 (ns.getD j 0)).1) ((sk_grow1 t2 q2 (ns.getD j 0)).2.1) ((sk_grow1 t2 q2 (ns.getD j 0)).2.2.1) ((sk_grow1 t2 q2 (ns.getD j 0)).2.2.2.2) ((ex.1, na3, ex.2.2).2.1) (nI f.1) f.2.1 f.2.2.1 ((ex.1, na3, ex.2.2).2.2.1) f.2.2.2.1 f.2.2.2.2.1 ((ex.1, na3, ex.2.2).2.2.2.1) ((ex.1, na3, ex.2.2).2.2.2.2.1) ((ex.1, na3, ex.2.2).2.2.2.2.2) lf) := hD
                        refine lv_istore_n (lv' := [(3, .int (nI t2.1)), (4, .int (nI j)), (0, .ref (a 0)), (2, .int (nI ns.length))]) hx hb dM_shapeFor_111 rfl hl (by decide) rfl (fun ls hl => ?_)
                        refine lv_iinc (v := nI (j + 1)) (lv' := [(4, .int (nI (j + 1))), (3, .int (nI t2.1)), (0, .ref (a 0)), (2, .int (nI ns.length))]) hx hb dM_shapeFor_112 hl (k := 1) rfl (sk_inc _) (by decide) rfl (fun ls hl => ?_)
                        refine lv_goto (tgt := 93) hx hb dM_shapeFor_115 (by decide) ?_
                        exact ih2 (j + 1) t2.1 (sk_grow1 t2 q2 (ns.getD j 0)) na3 (by omega) (Nat.lt_succ_self _) ((show t2.1 + 1 + (ns.length - (j + 1)) ≤ 200 by omega)) (by rw [hm, sk_mk_step (by omega)]) (z1) (hN3) (z2) (z3) (by omega) _ _ hP hD hS ls (lv_sub hl [0, 1, 2, 3] rfl)
                  exact loop2 (ns.length - i + 1) i q t ex.2.1 (by omega) (hq) (by omega) (sk_reach_s2 (by omega) hem (by rw [← hd]; exact sk_down_end n20) (by omega)) (hT) (hN) (by rw [hnm]; exact hnd) (by rw [hnm]; exact hin) (Nat.lt_succ_self _) _ _ hP hD hS ls (lv_sub hl [2, 3, 4, 6] rfl)
                · skip
                  have n84 : ¬ 0 ≤ q := fun z9 => c84 ((nI_leI (a := 0) (b := q) (by omega) (by omega)).mpr z9)
                  omega
              · skip
                have n78 : ¬ (t.1 + ((ns.length - i) + 0)) ≤ 200 := fun z9 => c78 ((nI_leI (a := (t.1 + ((ns.length - i) + 0))) (b := 200) (by omega) (by omega)).mpr z9)
                refine lv_iconst (v := (-1)) hx hb dM_shapeFor_81 (by decide) ?_
                exact W.iret (v := (-1)) hx hb hr (fun U9 ht hW => ⟨⟨(-1), ((b, t, f), ex, lf, th), rfl, Or.inl ⟨sk_reach_n2 (by omega) hem (by rw [← hd]; exact sk_down_end n20) (by omega), rfl, rfl⟩, sk_endw ht hP hD⟩, hS.F ht⟩) hS.2.2 dM_shapeFor_82
            · skip
              have n57 : ¬ 0 ≤ q := fun z9 => c57 ((nI_leI (a := 0) (b := q) (by omega) (by omega)).mpr z9)
              omega
          · skip
            have n20 : ¬ ns.length ≤ i := fun z9 => c20 ((nI_leI (a := ns.length) (b := i) (by omega) (by omega)).mpr z9)
            refine lv_aload_n hx hb dM_shapeFor_23 rfl (lv_at hl 3 rfl) ?_
            refine lv_iload hx hb dM_shapeFor_24 (lv_at hl 0 rfl) ?_
            refine lv_aload_n hx hb dM_shapeFor_26 rfl (lv_at hl 3 rfl) ?_
            refine va_get (D := (dC, dI)) (ci := 4) (v := .ref (a 16)) (C := RM) (T := TM) (N := 20) hx hb hts inM hown hK hP 0 rfl rfl 19 (by decide) (hts _ wfM_59) (fun _ h9 => h9) rfl dM_shapeFor_27 ?_
            refine lv_iload hx hb dM_shapeFor_30 (lv_at hl 1 rfl) ?_
            refine va_iald hx hb hK hP 16 0 rfl rfl (vp_in_nI (show i < 12 by omega) (by decide)) dM_shapeFor_32 ?_
            refine lv_topi (fun x32 e32 => ?_)
            rw [nI_clamp (show i < 2 ^ 31 by omega)] at e32
            obtain rfl : x32 = ns.getD i 0 := e32.trans (hrow i (by omega))
            refine va_calli (va_runV (As := [.int (nI q), .int (ns.getD i 0)]) (rest := []) ⟨hx, hb, hml, hown, hts⟩ (kM_child l dC dI a k b t f ex lf th q (ns.getD i 0) hT hN hq) (cwV 2 hts (sk_gV wmM_72 wiM_child wsM_child wnM wcM_child) rfl rfl rfl (by decide +kernel) ⟨Nat.le_of_ble_eq_true rfl, Nat.le_of_ble_eq_true rfl⟩) ⟨sk_blindM _, va_recv hK hP (ci := 4) (q0 := 0) rfl rfl, fun U hU hW => ⟨rfl, sk_atM (S := (b, t, f)) (ex := ex) (lf := lf) (th := th) hP hK hU hW⟩⟩ rfl rfl hl.1 rfl (lv_room (Nat.le_of_ble_eq_true rfl)) dM_shapeFor_33 ⟨Nat.le_of_ble_eq_true rfl, Nat.le_of_ble_eq_true rfl⟩) hS (fun _ _ h => h.elim) (fun _ h => h.elim) (fun r33 u33 U9 H locs ht hvm w33 hB hz hk hS => ?_)
            have hP : va_P (dC, dI) vwCl (sk_wMR a k th (nI b.1) b.2.2.1 b.2.2.2.1 ex.1 (nI t.1) t.2.1 t.2.2.1 t.2.2.2.2 ex.2.1 (nI f.1) f.2.1 f.2.2.1 ex.2.2.1 f.2.2.2.1 f.2.2.2.2.1 ex.2.2.2.1 ex.2.2.2.2.1 ex.2.2.2.2.2 lf) H := hP.kept (fun j q hq => hk q.1 ((hP j q hq).lt) (fun h => h))
            clear hk hB ht
            rcases sk_wn_spec hT hq (ns.getD i 0) with ⟨hwn, -⟩ | ⟨i2, m2, hi2, -, hwn, -, -, -, -, -, -, hnm2⟩
            · skip
              obtain rfl : r33 = -1 := w33.trans hwn
              refine lv_istore (lv' := [(5, .int (-1)), (4, .int (nI i)), (3, .int (nI q)), (0, .ref (a 0)), (1, .int x), (2, .int (nI ns.length))]) hx hb dM_shapeFor_36 hl (by decide) rfl (fun ls hl => ?_)
              refine lv_iload hx hb dM_shapeFor_38 (lv_at hl 0 rfl) ?_
              refine lv_if_lt (tgt := 12) hx hb dM_shapeFor_40 (by decide) (fun _ => ?_) (fun q => absurd (by decide) q)
              refine lv_iload hx hb dM_shapeFor_12 (lv_at hl 0 rfl) ?_
              refine lv_if_lt (tgt := 52) hx hb dM_shapeFor_14 (by decide) (fun _ => ?_) (fun q => absurd (by decide) q)
              refine lv_iload_n hx hb dM_shapeFor_52 rfl (lv_at hl 5 rfl) ?_
              refine lv_iload hx hb dM_shapeFor_53 (lv_at hl 1 rfl) ?_
              refine lv_isub hx hb dM_shapeFor_55 ?_
              refine lv_topi (fun x55 e55 => ?_)
              obtain rfl : x55 = nI (ns.length - i) := e55.trans (pk_sub (by omega))
              refine lv_iload_n hx hb dM_shapeFor_56 rfl (lv_at hl 2 rfl) ?_
              refine lv_if_ge (tgt := 64) hx hb dM_shapeFor_57 (by decide) (fun c57 => ?_) (fun c57 => ?_)
              · skip
                have n57 : 0 ≤ q := (nI_leI (a := 0) (b := q) (by omega) (by omega)).mp c57
                refine lv_iconst (v := nI 0) hx hb dM_shapeFor_64 (by decide) ?_
                refine lv_iadd hx hb dM_shapeFor_65 ?_
                refine lv_topi (fun x65 e65 => ?_)
                obtain rfl : x65 = nI ((ns.length - i) + 0) := e65.trans (nI_add _ _)
                refine lv_istore (lv' := [(6, .int (nI ((ns.length - i) + 0))), (5, .int (-1)), (4, .int (nI i)), (3, .int (nI q)), (0, .ref (a 0)), (1, .int x), (2, .int (nI ns.length))]) hx hb dM_shapeFor_66 hl (by decide) rfl (fun ls hl => ?_)
                refine lv_aload_n hx hb dM_shapeFor_68 rfl (lv_at hl 4 rfl) ?_
                refine va_get (D := (dC, dI)) (ci := 4) (v := .int (nI t.1)) (C := RM) (T := TM) (N := 20) hx hb hts inM hown hK hP 0 rfl rfl 5 (by decide) (hts _ wfM_19) (fun _ h9 => h9) rfl dM_shapeFor_69 ?_
                refine lv_iload hx hb dM_shapeFor_72 (lv_at hl 0 rfl) ?_
                refine lv_iadd hx hb dM_shapeFor_74 ?_
                refine lv_topi (fun x74 e74 => ?_)
                obtain rfl : x74 = nI (t.1 + ((ns.length - i) + 0)) := e74.trans (nI_add _ _)
                refine lv_sipush (v := nI 200) hx hb dM_shapeFor_75 (by decide) ?_
                refine lv_icmp_le (tgt := 83) hx hb dM_shapeFor_78 (by decide) (fun c78 => ?_) (fun c78 => ?_)
                · skip
                  have n78 : (t.1 + ((ns.length - i) + 0)) ≤ 200 := (nI_leI (a := (t.1 + ((ns.length - i) + 0))) (b := 200) (by omega) (by omega)).mp c78
                  refine lv_iload_n hx hb dM_shapeFor_83 rfl (lv_at hl 3 rfl) ?_
                  refine lv_if_ge (tgt := 93) hx hb dM_shapeFor_84 (by decide) (fun c84 => ?_) (fun c84 => ?_)
                  · skip
                    have n84 : 0 ≤ q := (nI_leI (a := 0) (b := q) (by omega) (by omega)).mp c84
                    have loop2 : ∀ (nn : Nat) (j q2 : Nat) (t2 : sk_Tr) (n2 : sk_F), j ≤ ns.length → q2 < t2.1 → t2.1 + (ns.length - j) ≤ 200 → sk_reach t x ns = some (sk_mk t2 q2 (ns.drop j)) → sk_TO b.1 t2 → sk_RN t2 n2 → (sk_names t2 q2 ++ ns.drop j).Nodup → sk_in12 (sk_names t2 q2 ++ ns.drop j) → ns.length - j < nn → ∀ (H : Heap) (locs : List Loc), va_P (dC, dI) vwCl (sk_wMR a k th (nI b.1) b.2.2.1 b.2.2.2.1 ((ex.1, n2, ex.2.2).1) (nI t2.1) t2.2.1 t2.2.2.1 t2.2.2.2.2 ((ex.1, n2, ex.2.2).2.1) (nI f.1) f.2.1 f.2.2.1 ((ex.1, n2, ex.2.2).2.2.1) f.2.2.2.1 f.2.2.2.2.1 ((ex.1, n2, ex.2.2).2.2.2.1) ((ex.1, n2, ex.2.2).2.2.2.2.1) ((ex.1, n2, ex.2.2).2.2.2.2.2) lf) H → va_D A (sk_wMR a k th (nI b.1) b.2.2.1 b.2.2.2.1 ((ex.1, n2, ex.2.2).1) (nI t2.1) t2.2.1 t2.2.2.1 t2.2.2.2.2 ((ex.1, n2, ex.2.2).2.1) (nI f.1) f.2.1 f.2.2.1 ((ex.1, n2, ex.2.2).2.2.1) f.2.2.2.1 f.2.2.2.2.1 ((ex.1, n2, ex.2.2).2.2.2.1) ((ex.1, n2, ex.2.2).2.2.2.2.1) ((ex.1, n2, ex.2.2).2.2.2.2.2) lf) → va_S A s.heap H locs → ∀ ls : Array Slot, lv_has ls 7 [(4, .int (nI j)), (3, .int (nI q2)), (0, .ref (a 0)), (2, .int (nI ns.length))] → W p l e (headSpec wzM_shapeFor rzM_shapeFor).room s m ([.ref (a 0), .int x, .int (nI ns.length)] : List Value).toArray below meth c H locs 0 0 (MQ below (va_Qi (fun r (u : sk_S × sk_Ex × sk_F × Int32) => (sk_reach t x ns = none ∧ r = -1 ∧ u = ((b, t, f), ex, lf, th)) ∨ ∃ t2 g na2, sk_reach t x ns = some (t2, g) ∧ r = nI g ∧ u = ((b, t2, f), (ex.1, na2, ex.2.2), lf, th) ∧ sk_RN t2 na2) (fun u U => va_P (dC, dI) vwCl (sk_wM a k u.1 u.2.1 u.2.2.1 u.2.2.2) U.heap ∧ va_D A (sk_wM a k u.1 u.2.1 u.2.2.1 u.2.2.2)) A) ([.ref (a 0), .int x, .int (nI ns.length)] : List Value).toArray s 0 0 A) (F0 m 93 ls []) := by
                      intro nn
                      induction nn with
                      | zero => intro j q2 t2 n2 hj hq2 hcap hm hT2 hN2 hnd2 hin2 hmu; exact absurd hmu (Nat.not_lt_zero _)
                      | succ nn ih2 =>
                        intro j q2 t2 n2 hj hq2 hcap hm hT2 hN2 hnd2 hin2 hmu H locs hP hD hS ls hl
                        refine lv_iload hx hb dM_shapeFor_93 (lv_at hl 0 rfl) ?_
                        refine lv_iload_n hx hb dM_shapeFor_95 rfl (lv_at hl 3 rfl) ?_
                        refine lv_icmp_ge (tgt := 118) hx hb dM_shapeFor_96 (by decide) (fun c96 => ?_) (fun c96 => ?_)
                        · skip
                          have n96 : ns.length ≤ j := (nI_leI (a := ns.length) (b := j) (by omega) (by omega)).mp c96
                          refine lv_iload_n hx hb dM_shapeFor_118 rfl (lv_at hl 1 rfl) ?_
                          exact W.iret (v := nI q2) hx hb hr (fun U9 ht hW => ⟨⟨nI q2, ((b, t2, f), (ex.1, n2, ex.2.2), lf, th), rfl, Or.inr ⟨t2, q2, n2, by rw [hm, sk_mk_end n96], rfl, rfl, hN2⟩, sk_endw ht hP hD⟩, hS.F ht⟩) hS.2.2 dM_shapeFor_119
                        · skip
                          have n96 : ¬ ns.length ≤ j := fun z9 => c96 ((nI_leI (a := ns.length) (b := j) (by omega) (by omega)).mpr z9)
                          refine lv_aload_n hx hb dM_shapeFor_99 rfl (lv_at hl 2 rfl) ?_
                          refine lv_iload_n hx hb dM_shapeFor_100 rfl (lv_at hl 1 rfl) ?_
                          refine lv_aload_n hx hb dM_shapeFor_101 rfl (lv_at hl 2 rfl) ?_
                          refine va_get (D := (dC, dI)) (ci := 4) (v := .ref (a 16)) (C := RM) (T := TM) (N := 20) hx hb hts inM hown hK hP 0 rfl rfl 19 (by decide) (hts _ wfM_59) (fun _ h9 => h9) rfl dM_shapeFor_102 ?_
                          refine lv_iload hx hb dM_shapeFor_105 (lv_at hl 0 rfl) ?_
                          refine va_iald hx hb hK hP 16 0 rfl rfl (vp_in_nI (show j < 12 by omega) (by decide)) dM_shapeFor_107 ?_
                          refine lv_topi (fun x107 e107 => ?_)
                          rw [nI_clamp (show j < 2 ^ 31 by omega)] at e107
                          obtain rfl : x107 = ns.getD j 0 := e107.trans (hrow j (by omega))
                          obtain ⟨z1, z2, z3, z4⟩ := sk_step hT2 hq2 (by omega) (by omega) hnd2 hin2
                          refine va_calli (va_runV (As := [.int (nI q2), .int (ns.getD j 0)]) (rest := []) ⟨hx, hb, hml, hown, hts⟩ (kM_makeChild l dC dI a k b t2 f (ex.1, n2, ex.2.2) lf th A q2 (ns.getD j 0) hT2 hN2 hq2 (by omega) z4) (cwV 2 hts (sk_gV wmM_79 wiM_makeChild wsM_makeChild wnM wcM_makeChild) rfl rfl rfl (by decide +kernel) ⟨Nat.le_of_ble_eq_true rfl, Nat.le_of_ble_eq_true rfl⟩) ⟨sk_blindMD _, va_recv hK hP (ci := 4) (q0 := 0) rfl rfl, fun U hU hW => ⟨rfl, sk_atM (S := (b, t2, f)) (ex := (ex.1, n2, ex.2.2)) (lf := lf) (th := th) hP hK hU hW, hD⟩⟩ rfl rfl hl.1 rfl (lv_room (Nat.le_of_ble_eq_true rfl)) dM_shapeFor_108 ⟨Nat.le_of_ble_eq_true rfl, Nat.le_of_ble_eq_true rfl⟩) hS (fun _ _ h => h) (fun _ h => h) (fun r108 u108 U9 H locs ht hvm w108 hB hz hk hS => ?_)
                          obtain ⟨hP, hD⟩ := hB
                          rw [ht] at hP
                          obtain ⟨rfl, na3, rfl, hN3⟩ := w108
                          have hP : va_P (dC, dI) vwCl (sk_wMR a k th (nI b.1) b.2.2.1 b.2.2.2.1 ((ex.1, na3, ex.2.2).1) (nI (sk_grow1 t2 q2 (ns.getD j 0)).1) ((sk_grow1 t2 q2 (ns.getD j 0)).2.1) ((sk_grow1 t2 q2 (ns.getD j 0)).2.2.1) ((sk_grow1 t2 q2 (ns.getD j 0)).2.2.2.2) ((ex.1, na3, ex.2.2).2.1) (nI f.1) f.2.1 f.2.2.1 ((ex.1, na3, ex.2.2).2.2.1) f.2.2.2.1 f.2.2.2.2.1 ((ex.1, na3, ex.2.2).2.2.2.1) ((ex.1, na3, ex.2.2).2.2.2.2.1) ((ex.1, na3, ex.2.2).2.2.2.2.2) lf) H := hP
                          have hD : va_D A (sk_wMR a k th (nI b.1) b.2.2.1 b.2.2.2.1 ((ex.1, na3, ex.2.2).1) (nI (sk_grow1 t2 q2 (ns.getD j 0)).1) ((sk_grow1 t2 q2 (ns.getD j 0)).2.1) ((sk_grow1 t2 q2 (ns.getD j 0)).2.2.1) ((sk_grow1 t2 q2 (ns.getD j 0)).2.2.2.2) ((ex.1, na3, ex.2.2).2.1) (nI f.1) f.2.1 f.2.2.1 ((ex.1, na3, ex.2.2).2.2.1) f.2.2.2.1 f.2.2.2.2.1 ((ex.1, na3, ex.2.2).2.2.2.1) ((ex.1, na3, ex.2.2).2.2.2.2.1) ((ex.1, na3, ex.2.2).2.2.2.2.2) lf) := hD
                          refine lv_istore_n (lv' := [(3, .int (nI t2.1)), (4, .int (nI j)), (0, .ref (a 0)), (2, .int (nI ns.length))]) hx hb dM_shapeFor_111 rfl hl (by decide) rfl (fun ls hl => ?_)
                          refine lv_iinc (v := nI (j + 1)) (lv' := [(4, .int (nI (j + 1))), (3, .int (nI t2.1)), (0, .ref (a 0)), (2, .int (nI ns.length))]) hx hb dM_shapeFor_112 hl (k := 1) rfl (sk_inc _) (by decide) rfl (fun ls hl => ?_)
                          refine lv_goto (tgt := 93) hx hb dM_shapeFor_115 (by decide) ?_
                          exact ih2 (j + 1) t2.1 (sk_grow1 t2 q2 (ns.getD j 0)) na3 (by omega) (Nat.lt_succ_self _) ((show t2.1 + 1 + (ns.length - (j + 1)) ≤ 200 by omega)) (by rw [hm, sk_mk_step (by omega)]) (z1) (hN3) (z2) (z3) (by omega) _ _ hP hD hS ls (lv_sub hl [0, 1, 2, 3] rfl)
                    exact loop2 (ns.length - i + 1) i q t ex.2.1 (by omega) (hq) (by omega) (sk_reach_s2 (by omega) hem (by rw [← hd]; exact sk_down_miss (by omega) hwn) (by omega)) (hT) (hN) (by rw [hnm]; exact hnd) (by rw [hnm]; exact hin) (Nat.lt_succ_self _) _ _ hP hD hS ls (lv_sub hl [2, 3, 4, 6] rfl)
                  · skip
                    have n84 : ¬ 0 ≤ q := fun z9 => c84 ((nI_leI (a := 0) (b := q) (by omega) (by omega)).mpr z9)
                    omega
                · skip
                  have n78 : ¬ (t.1 + ((ns.length - i) + 0)) ≤ 200 := fun z9 => c78 ((nI_leI (a := (t.1 + ((ns.length - i) + 0))) (b := 200) (by omega) (by omega)).mpr z9)
                  refine lv_iconst (v := (-1)) hx hb dM_shapeFor_81 (by decide) ?_
                  exact W.iret (v := (-1)) hx hb hr (fun U9 ht hW => ⟨⟨(-1), ((b, t, f), ex, lf, th), rfl, Or.inl ⟨sk_reach_n2 (by omega) hem (by rw [← hd]; exact sk_down_miss (by omega) hwn) (by omega), rfl, rfl⟩, sk_endw ht hP hD⟩, hS.F ht⟩) hS.2.2 dM_shapeFor_82
              · skip
                have n57 : ¬ 0 ≤ q := fun z9 => c57 ((nI_leI (a := 0) (b := q) (by omega) (by omega)).mpr z9)
                omega
            · skip
              obtain rfl : r33 = nI i2 := w33.trans hwn
              refine lv_istore (lv' := [(5, .int (nI i2)), (4, .int (nI i)), (3, .int (nI q)), (0, .ref (a 0)), (1, .int x), (2, .int (nI ns.length))]) hx hb dM_shapeFor_36 hl (by decide) rfl (fun ls hl => ?_)
              refine lv_iload hx hb dM_shapeFor_38 (lv_at hl 0 rfl) ?_
              refine lv_if_lt (tgt := 12) hx hb dM_shapeFor_40 (by decide) (fun c40 => ?_) (fun c40 => ?_)
              · skip
                have n40 : i2 < 0 := (nI_ltI (a := i2) (b := 0) (by omega) (by omega)).mp c40
                omega
              · skip
                have n40 : ¬ i2 < 0 := fun z9 => c40 ((nI_ltI (a := i2) (b := 0) (by omega) (by omega)).mpr z9)
                refine lv_iload hx hb dM_shapeFor_43 (lv_at hl 0 rfl) ?_
                refine lv_istore_n (lv' := [(3, .int (nI i2)), (5, .int (nI i2)), (4, .int (nI i)), (0, .ref (a 0)), (1, .int x), (2, .int (nI ns.length))]) hx hb dM_shapeFor_45 rfl hl (by decide) rfl (fun ls hl => ?_)
                refine lv_iinc (v := nI (i + 1)) (lv' := [(4, .int (nI (i + 1))), (3, .int (nI i2)), (5, .int (nI i2)), (0, .ref (a 0)), (1, .int x), (2, .int (nI ns.length))]) hx hb dM_shapeFor_46 hl (k := 2) rfl (sk_inc _) (by decide) rfl (fun ls hl => ?_)
                refine lv_goto (tgt := 12) hx hb dM_shapeFor_49 (by decide) ?_
                exact ih1 (i + 1) i2 (by omega) (hi2) (by rw [← hd]; exact (sk_down_hit (by omega) (by omega) hwn).symm) (by rw [hnm2]; exact sk_app_d (by omega) hnm) (by omega) _ _ hP hD hS ls (lv_sub hl [2, 0, 1, 3, 4, 5] rfl)
    exact loop1 (ns.length - 0 + 1) 0 q0 (Nat.zero_le _) (hq0) (rfl) (by rw [sk_names_e hT hq0 ho0]; rfl) (Nat.lt_succ_self _) _ _ hP hD hS ls (lv_sub hl [0, 1, 2, 3, 4, 5] rfl)
