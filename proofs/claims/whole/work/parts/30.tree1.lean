abbrev wzT_has : List Cond := .code yT_has cT_has 2 (some .boolean) :: sk_W
abbrev rzT_has : Room := { frames := 0, cells := 0, slots := 0, locals := 0 }
set_option maxHeartbeats 4000000 in
set_option maxRecDepth 100000 in
theorem kT_has (l : Launch) (dC : Nat → ClassId) (dI : Nat → Nat → Nat) (a : Nat → Nat) (k : Nat → ClassId) (b : sk_Ob) (t : sk_Tr) (f : sk_Fi) (wt : sk_F) (x : Int32)  : Met l yT_has wzT_has rzT_has (va_Pc [.ref (a 2), .int x] (sk_PX dC dI a k (b, t, f) wt)) (va_Qi (fun r (_ : Unit) => r = sk_bI (sk_hasB t.1 x)) (fun _ _ => True) (fun _ => False)) 0 0 (fun _ => False) := by
  refine Met.ofW (cc := cT_has) (maxL := 2) (ret := (some .boolean)) (by decide) rfl ?_
  intro p e s m args below meth c s₁ B hml hv
  obtain ⟨rfl, hP, hK, hN⟩ := hv
  have hx := B.exec
  have hb := B.bytes
  have hr := B.returns
  have hts : ∀ w ∈ sk_W, w.before ([.ref (a 2), .int x] : List Value).toArray s = true := fun w h => atoms_spec (ws := wzT_has) B.pre w (List.mem_cons_of_mem _ h)
  have hown : s.vm.findClass RT = some m.cls := findClass_of_methodNamed B.named
  have hlocks := B.notSynchronized
  have hS : va_S (fun _ => False) s.heap s.heap [] := va_S.rf
  have hP : va_P (dC, dI) vwCl (sk_wR a k (nI b.1) b.2.1 b.2.2.1 b.2.2.2.1 b.2.2.2.2 (nI t.1) t.2.1 t.2.2.1 t.2.2.2.1 t.2.2.2.2 (nI f.1) (nI (sk_there f)) (nI (f.1 % 100)) f.2.1 f.2.2.1 f.2.2.2.1 f.2.2.2.2.1 (fun i => lN (sk_nb (f.2.2.2.2.2.1 i))) (fun i => sk_bI (f.2.2.2.2.2.2 i)) wt) s.heap := hP
  have hl := lv_entry ([.ref (a 2), .int x]) (n := 2) (Nat.le_of_ble_eq_true rfl)
  rw [lg_entry_eq]
  generalize (lg_sl ([.ref (a 2), .int x]) ++ List.replicate (2 - (lg_sl ([.ref (a 2), .int x])).length) Slot.unset).toArray = ls at hl ⊢
  have hl : lv_has ls 2 [(0, .ref (a 2)), (1, .int x)] := hl
  refine lv_iload_n hx hb dT_has_0 rfl (lv_at hl 1 rfl) ?_
  refine lv_if_lt (tgt := 16) hx hb dT_has_1 (by decide) (fun c1 => ?_) (fun c1 => ?_)
  · skip
    refine lv_iconst (v := nI 0) hx hb dT_has_16 (by decide) ?_
    exact W.zret (v := nI 0) hx hb hr (by decide) (fun U9 ht hW => ⟨⟨nI 0, (), rfl, sk_hasB_f1 c1, trivial⟩, hS.F ht⟩) hS.2.2 dT_has_17
  · skip
    refine lv_iload_n hx hb dT_has_4 rfl (lv_at hl 1 rfl) ?_
    refine lv_aload_n hx hb dT_has_5 rfl (lv_at hl 0 rfl) ?_
    refine va_get (D := (dC, dI)) (ci := 2) (v := .int (nI t.1)) (C := RT) (T := TT) (N := 5) hx hb hts inT hown hK hP 2 rfl rfl 4 (by decide) (hts _ wfT_24) (fun _ h9 => h9) rfl dT_has_6 ?_
    refine lv_icmp_ge (tgt := 16) hx hb dT_has_9 (by decide) (fun c9 => ?_) (fun c9 => ?_)
    · skip
      refine lv_iconst (v := nI 0) hx hb dT_has_16 (by decide) ?_
      exact W.zret (v := nI 0) hx hb hr (by decide) (fun U9 ht hW => ⟨⟨nI 0, (), rfl, sk_hasB_f2 c9, trivial⟩, hS.F ht⟩) hS.2.2 dT_has_17
    · skip
      refine lv_iconst (v := nI 1) hx hb dT_has_12 (by decide) ?_
      refine lv_goto (tgt := 17) hx hb dT_has_13 (by decide) ?_
      exact W.zret (v := nI 1) hx hb hr (by decide) (fun U9 ht hW => ⟨⟨nI 1, (), rfl, sk_hasB_t c1 c9, trivial⟩, hS.F ht⟩) hS.2.2 dT_has_17
abbrev wzO_has : List Cond := .code yO_has cO_has 2 (some .boolean) :: sk_W
abbrev rzO_has : Room := { frames := 0, cells := 0, slots := 0, locals := 0 }
set_option maxHeartbeats 4000000 in
set_option maxRecDepth 100000 in
theorem kO_has (l : Launch) (dC : Nat → ClassId) (dI : Nat → Nat → Nat) (a : Nat → Nat) (k : Nat → ClassId) (b : sk_Ob) (t : sk_Tr) (f : sk_Fi) (wt : sk_F) (x : Int32)  : Met l yO_has wzO_has rzO_has (va_Pc [.ref (a 1), .int x] (sk_PX dC dI a k (b, t, f) wt)) (va_Qi (fun r (_ : Unit) => r = sk_bI (sk_hasB b.1 x)) (fun _ _ => True) (fun _ => False)) 0 0 (fun _ => False) := by
  refine Met.ofW (cc := cO_has) (maxL := 2) (ret := (some .boolean)) (by decide) rfl ?_
  intro p e s m args below meth c s₁ B hml hv
  obtain ⟨rfl, hP, hK, hN⟩ := hv
  have hx := B.exec
  have hb := B.bytes
  have hr := B.returns
  have hts : ∀ w ∈ sk_W, w.before ([.ref (a 1), .int x] : List Value).toArray s = true := fun w h => atoms_spec (ws := wzO_has) B.pre w (List.mem_cons_of_mem _ h)
  have hown : s.vm.findClass RO = some m.cls := findClass_of_methodNamed B.named
  have hlocks := B.notSynchronized
  have hS : va_S (fun _ => False) s.heap s.heap [] := va_S.rf
  have hP : va_P (dC, dI) vwCl (sk_wR a k (nI b.1) b.2.1 b.2.2.1 b.2.2.2.1 b.2.2.2.2 (nI t.1) t.2.1 t.2.2.1 t.2.2.2.1 t.2.2.2.2 (nI f.1) (nI (sk_there f)) (nI (f.1 % 100)) f.2.1 f.2.2.1 f.2.2.2.1 f.2.2.2.2.1 (fun i => lN (sk_nb (f.2.2.2.2.2.1 i))) (fun i => sk_bI (f.2.2.2.2.2.2 i)) wt) s.heap := hP
  have hl := lv_entry ([.ref (a 1), .int x]) (n := 2) (Nat.le_of_ble_eq_true rfl)
  rw [lg_entry_eq]
  generalize (lg_sl ([.ref (a 1), .int x]) ++ List.replicate (2 - (lg_sl ([.ref (a 1), .int x])).length) Slot.unset).toArray = ls at hl ⊢
  have hl : lv_has ls 2 [(0, .ref (a 1)), (1, .int x)] := hl
  refine lv_iload_n hx hb dO_has_0 rfl (lv_at hl 1 rfl) ?_
  refine lv_if_lt (tgt := 16) hx hb dO_has_1 (by decide) (fun c1 => ?_) (fun c1 => ?_)
  · skip
    refine lv_iconst (v := nI 0) hx hb dO_has_16 (by decide) ?_
    exact W.zret (v := nI 0) hx hb hr (by decide) (fun U9 ht hW => ⟨⟨nI 0, (), rfl, sk_hasB_f1 c1, trivial⟩, hS.F ht⟩) hS.2.2 dO_has_17
  · skip
    refine lv_iload_n hx hb dO_has_4 rfl (lv_at hl 1 rfl) ?_
    refine lv_aload_n hx hb dO_has_5 rfl (lv_at hl 0 rfl) ?_
    refine va_get (D := (dC, dI)) (ci := 1) (v := .int (nI b.1)) (C := RO) (T := TO) (N := 5) hx hb hts inO hown hK hP 1 rfl rfl 4 (by decide) (hts _ wfO_26) (fun _ h9 => h9) rfl dO_has_6 ?_
    refine lv_icmp_ge (tgt := 16) hx hb dO_has_9 (by decide) (fun c9 => ?_) (fun c9 => ?_)
    · skip
      refine lv_iconst (v := nI 0) hx hb dO_has_16 (by decide) ?_
      exact W.zret (v := nI 0) hx hb hr (by decide) (fun U9 ht hW => ⟨⟨nI 0, (), rfl, sk_hasB_f2 c9, trivial⟩, hS.F ht⟩) hS.2.2 dO_has_17
    · skip
      refine lv_iconst (v := nI 1) hx hb dO_has_12 (by decide) ?_
      refine lv_goto (tgt := 17) hx hb dO_has_13 (by decide) ?_
      exact W.zret (v := nI 1) hx hb hr (by decide) (fun U9 ht hW => ⟨⟨nI 1, (), rfl, sk_hasB_t c1 c9, trivial⟩, hS.F ht⟩) hS.2.2 dO_has_17
abbrev wzF_has : List Cond := .code yF_has cF_has 2 (some .boolean) :: sk_W
abbrev rzF_has : Room := { frames := 0, cells := 0, slots := 0, locals := 0 }
set_option maxHeartbeats 4000000 in
set_option maxRecDepth 100000 in
theorem kF_has (l : Launch) (dC : Nat → ClassId) (dI : Nat → Nat → Nat) (a : Nat → Nat) (k : Nat → ClassId) (b : sk_Ob) (t : sk_Tr) (f : sk_Fi) (wt : sk_F) (x : Int32)  : Met l yF_has wzF_has rzF_has (va_Pc [.ref (a 3), .int x] (sk_PX dC dI a k (b, t, f) wt)) (va_Qi (fun r (_ : Unit) => r = sk_bI (sk_hasB (sk_there f) x)) (fun _ _ => True) (fun _ => False)) 0 0 (fun _ => False) := by
  refine Met.ofW (cc := cF_has) (maxL := 2) (ret := (some .boolean)) (by decide) rfl ?_
  intro p e s m args below meth c s₁ B hml hv
  obtain ⟨rfl, hP, hK, hN⟩ := hv
  have hx := B.exec
  have hb := B.bytes
  have hr := B.returns
  have hts : ∀ w ∈ sk_W, w.before ([.ref (a 3), .int x] : List Value).toArray s = true := fun w h => atoms_spec (ws := wzF_has) B.pre w (List.mem_cons_of_mem _ h)
  have hown : s.vm.findClass RF = some m.cls := findClass_of_methodNamed B.named
  have hlocks := B.notSynchronized
  have hS : va_S (fun _ => False) s.heap s.heap [] := va_S.rf
  have hP : va_P (dC, dI) vwCl (sk_wR a k (nI b.1) b.2.1 b.2.2.1 b.2.2.2.1 b.2.2.2.2 (nI t.1) t.2.1 t.2.2.1 t.2.2.2.1 t.2.2.2.2 (nI f.1) (nI (sk_there f)) (nI (f.1 % 100)) f.2.1 f.2.2.1 f.2.2.2.1 f.2.2.2.2.1 (fun i => lN (sk_nb (f.2.2.2.2.2.1 i))) (fun i => sk_bI (f.2.2.2.2.2.2 i)) wt) s.heap := hP
  have hl := lv_entry ([.ref (a 3), .int x]) (n := 2) (Nat.le_of_ble_eq_true rfl)
  rw [lg_entry_eq]
  generalize (lg_sl ([.ref (a 3), .int x]) ++ List.replicate (2 - (lg_sl ([.ref (a 3), .int x])).length) Slot.unset).toArray = ls at hl ⊢
  have hl : lv_has ls 2 [(0, .ref (a 3)), (1, .int x)] := hl
  refine lv_iload_n hx hb dF_has_0 rfl (lv_at hl 1 rfl) ?_
  refine lv_if_lt (tgt := 16) hx hb dF_has_1 (by decide) (fun c1 => ?_) (fun c1 => ?_)
  · skip
    refine lv_iconst (v := nI 0) hx hb dF_has_16 (by decide) ?_
    exact W.zret (v := nI 0) hx hb hr (by decide) (fun U9 ht hW => ⟨⟨nI 0, (), rfl, sk_hasB_f1 c1, trivial⟩, hS.F ht⟩) hS.2.2 dF_has_17
  · skip
    refine lv_iload_n hx hb dF_has_4 rfl (lv_at hl 1 rfl) ?_
    refine lv_aload_n hx hb dF_has_5 rfl (lv_at hl 0 rfl) ?_
    refine va_get (D := (dC, dI)) (ci := 0) (v := .int (nI (sk_there f))) (C := RF) (T := TF) (N := 9) hx hb hts inF hown hK hP 3 rfl rfl 7 (by decide) (hts _ wfF_36) (fun _ h9 => h9) rfl dF_has_6 ?_
    refine lv_icmp_ge (tgt := 16) hx hb dF_has_9 (by decide) (fun c9 => ?_) (fun c9 => ?_)
    · skip
      refine lv_iconst (v := nI 0) hx hb dF_has_16 (by decide) ?_
      exact W.zret (v := nI 0) hx hb hr (by decide) (fun U9 ht hW => ⟨⟨nI 0, (), rfl, sk_hasB_f2 c9, trivial⟩, hS.F ht⟩) hS.2.2 dF_has_17
    · skip
      refine lv_iconst (v := nI 1) hx hb dF_has_12 (by decide) ?_
      refine lv_goto (tgt := 17) hx hb dF_has_13 (by decide) ?_
      exact W.zret (v := nI 1) hx hb hr (by decide) (fun U9 ht hW => ⟨⟨nI 1, (), rfl, sk_hasB_t c1 c9, trivial⟩, hS.F ht⟩) hS.2.2 dF_has_17
abbrev wzT_emptyOf : List Cond := .code yT_emptyOf cT_emptyOf 3 (some .int) :: sk_W
abbrev rzT_emptyOf : Room := { frames := 0, cells := 0, slots := 0, locals := 0 }
set_option maxHeartbeats 4000000 in
set_option maxRecDepth 100000 in
theorem kT_emptyOf (l : Launch) (dC : Nat → ClassId) (dI : Nat → Nat → Nat) (a : Nat → Nat) (k : Nat → ClassId) (b : sk_Ob) (t : sk_Tr) (f : sk_Fi) (wt : sk_F) (x : Int32) (hT : sk_TO b.1 t) : Met l yT_emptyOf wzT_emptyOf rzT_emptyOf (va_Pc [.ref (a 2), .int x] (sk_PX dC dI a k (b, t, f) wt)) (va_Qi (fun r (_ : Unit) => r = sk_em t x) (fun _ _ => True) (fun _ => False)) 0 0 (fun _ => False) := by
  refine Met.ofW (cc := cT_emptyOf) (maxL := 3) (ret := (some .int)) (by decide) rfl ?_
  intro p e s m args below meth c s₁ B hml hv
  obtain ⟨rfl, hP, hK, hN⟩ := hv
  have hx := B.exec
  have hb := B.bytes
  have hr := B.returns
  have hts : ∀ w ∈ sk_W, w.before ([.ref (a 2), .int x] : List Value).toArray s = true := fun w h => atoms_spec (ws := wzT_emptyOf) B.pre w (List.mem_cons_of_mem _ h)
  have hown : s.vm.findClass RT = some m.cls := findClass_of_methodNamed B.named
  have hlocks := B.notSynchronized
  have hS : va_S (fun _ => False) s.heap s.heap [] := va_S.rf
  have hP : va_P (dC, dI) vwCl (sk_wR a k (nI b.1) b.2.1 b.2.2.1 b.2.2.2.1 b.2.2.2.2 (nI t.1) t.2.1 t.2.2.1 t.2.2.2.1 t.2.2.2.2 (nI f.1) (nI (sk_there f)) (nI (f.1 % 100)) f.2.1 f.2.2.1 f.2.2.2.1 f.2.2.2.2.1 (fun i => lN (sk_nb (f.2.2.2.2.2.1 i))) (fun i => sk_bI (f.2.2.2.2.2.2 i)) wt) s.heap := hP
  have hl := lv_entry ([.ref (a 2), .int x]) (n := 3) (Nat.le_of_ble_eq_true rfl)
  rw [lg_entry_eq]
  generalize (lg_sl ([.ref (a 2), .int x]) ++ List.replicate (3 - (lg_sl ([.ref (a 2), .int x])).length) Slot.unset).toArray = ls at hl ⊢
  have hl : lv_has ls 3 [(0, .ref (a 2)), (1, .int x)] := hl
  have h200 : t.1 ≤ 200 := hT.2.1
  have h60 : b.1 ≤ 60 := hT.2.2.1
  refine lv_iconst (v := nI 0) hx hb dT_emptyOf_0 (by decide) ?_
  refine lv_istore_n (lv' := [(2, .int (nI 0)), (0, .ref (a 2)), (1, .int x)]) hx hb dT_emptyOf_1 rfl hl (by decide) rfl (fun ls hl => ?_)
  have loop1 : ∀ (nn : Nat) (i : Nat), i ≤ t.1 → sk_ff (fun i => (decide (t.2.2.1 i = -1) && decide (t.2.1 i = x))) (t.1 - i) i = sk_em t x → t.1 - i < nn → ∀ ls : Array Slot, lv_has ls 3 [(2, .int (nI i)), (0, .ref (a 2)), (1, .int x)] → W p l e (headSpec wzT_emptyOf rzT_emptyOf).room s m ([.ref (a 2), .int x] : List Value).toArray below meth c s.heap [] 0 0 (MQ below (va_Qi (fun r (_ : Unit) => r = sk_em t x) (fun _ _ => True) (fun _ => False)) ([.ref (a 2), .int x] : List Value).toArray s 0 0 (fun _ => False)) (F0 m 2 ls []) := by
    intro nn
    induction nn with
    | zero => intro i hi he hmu; exact absurd hmu (Nat.not_lt_zero _)
    | succ nn ih1 =>
      intro i hi he hmu ls hl
      refine lv_iload_n hx hb dT_emptyOf_2 rfl (lv_at hl 0 rfl) ?_
      refine lv_aload_n hx hb dT_emptyOf_3 rfl (lv_at hl 1 rfl) ?_
      refine va_get (D := (dC, dI)) (ci := 2) (v := .int (nI t.1)) (C := RT) (T := TT) (N := 5) hx hb hts inT hown hK hP 2 rfl rfl 4 (by decide) (hts _ wfT_24) (fun _ h9 => h9) rfl dT_emptyOf_4 ?_
      refine lv_icmp_ge (tgt := 38) hx hb dT_emptyOf_7 (by decide) (fun c7 => ?_) (fun c7 => ?_)
      · skip
        have n7 : t.1 ≤ i := (nI_leI (a := t.1) (b := i) (by omega) (by omega)).mp c7
        refine lv_iconst (v := (-1)) hx hb dT_emptyOf_38 (by decide) ?_
        exact W.iret (v := (-1)) hx hb hr (fun U9 ht hW => ⟨⟨(-1), (), rfl, sk_ff_end n7 he, trivial⟩, hS.F ht⟩) hS.2.2 dT_emptyOf_39
      · skip
        have n7 : ¬ t.1 ≤ i := fun z9 => c7 ((nI_leI (a := t.1) (b := i) (by omega) (by omega)).mpr z9)
        refine lv_aload_n hx hb dT_emptyOf_10 rfl (lv_at hl 1 rfl) ?_
        refine va_get (D := (dC, dI)) (ci := 2) (v := .ref (a 10)) (C := RT) (T := TT) (N := 5) hx hb hts inT hown hK hP 2 rfl rfl 1 (by decide) (hts _ wfT_15) (fun _ h9 => h9) rfl dT_emptyOf_11 ?_
        refine lv_iload_n hx hb dT_emptyOf_14 rfl (lv_at hl 0 rfl) ?_
        refine va_iald hx hb hK hP 10 0 rfl rfl (vp_in_nI (show i < 200 by omega) (by decide)) dT_emptyOf_15 ?_
        refine lv_topi (fun x15 e15 => ?_)
        rw [nI_clamp (show i < 2 ^ 31 by omega)] at e15
        refine lv_iconst (v := (-1)) hx hb dT_emptyOf_16 (by decide) ?_
        refine lv_icmp_ne (tgt := 32) hx hb dT_emptyOf_17 (by decide) (fun c17 => ?_) (fun c17 => ?_)
        · skip
          refine lv_iinc (v := nI (i + 1)) (lv' := [(2, .int (nI (i + 1))), (0, .ref (a 2)), (1, .int x)]) hx hb dT_emptyOf_32 hl (k := 0) rfl (sk_inc _) (by decide) rfl (fun ls hl => ?_)
          refine lv_goto (tgt := 2) hx hb dT_emptyOf_35 (by decide) ?_
          exact ih1 (i + 1) (Nat.succ_le_of_lt (Nat.lt_of_not_le n7)) (sk_ff_miss (Nat.lt_of_not_le n7) he (by show (decide (t.2.2.1 i = -1) && decide (t.2.1 i = x)) = false; rw [← e15]; simp [c17])) (by omega) ls (lv_sub hl [0, 1, 2] rfl)
        · skip
          refine lv_aload_n hx hb dT_emptyOf_20 rfl (lv_at hl 1 rfl) ?_
          refine va_get (D := (dC, dI)) (ci := 2) (v := .ref (a 9)) (C := RT) (T := TT) (N := 5) hx hb hts inT hown hK hP 2 rfl rfl 0 (by decide) (hts _ wfT_9) (fun _ h9 => h9) rfl dT_emptyOf_21 ?_
          refine lv_iload_n hx hb dT_emptyOf_24 rfl (lv_at hl 0 rfl) ?_
          refine va_iald hx hb hK hP 9 0 rfl rfl (vp_in_nI (show i < 200 by omega) (by decide)) dT_emptyOf_25 ?_
          refine lv_topi (fun x25 e25 => ?_)
          rw [nI_clamp (show i < 2 ^ 31 by omega)] at e25
          refine lv_iload_n hx hb dT_emptyOf_26 rfl (lv_at hl 2 rfl) ?_
          refine lv_icmp_ne (tgt := 32) hx hb dT_emptyOf_27 (by decide) (fun c27 => ?_) (fun c27 => ?_)
          · skip
            refine lv_iinc (v := nI (i + 1)) (lv' := [(2, .int (nI (i + 1))), (0, .ref (a 2)), (1, .int x)]) hx hb dT_emptyOf_32 hl (k := 0) rfl (sk_inc _) (by decide) rfl (fun ls hl => ?_)
            refine lv_goto (tgt := 2) hx hb dT_emptyOf_35 (by decide) ?_
            exact ih1 (i + 1) (Nat.succ_le_of_lt (Nat.lt_of_not_le n7)) (sk_ff_miss (Nat.lt_of_not_le n7) he (by show (decide (t.2.2.1 i = -1) && decide (t.2.1 i = x)) = false; rw [← e25]; simp [c27])) (by omega) ls (lv_sub hl [0, 1, 2] rfl)
          · skip
            refine lv_iload_n hx hb dT_emptyOf_30 rfl (lv_at hl 0 rfl) ?_
            exact W.iret (v := nI i) hx hb hr (fun U9 ht hW => ⟨⟨nI i, (), rfl, sk_ff_hit (Nat.lt_of_not_le n7) he (by show (decide (t.2.2.1 i = -1) && decide (t.2.1 i = x)) = true; rw [← e15, ← e25]; simp [c17, c27]), trivial⟩, hS.F ht⟩) hS.2.2 dT_emptyOf_31
  exact loop1 (t.1 - 0 + 1) 0 (Nat.zero_le _) (rfl) (Nat.lt_succ_self _) ls (lv_sub hl [0, 1, 2] rfl)
abbrev wzT_withName : List Cond := .code yT_withName cT_withName 4 (some .int) :: sk_W
abbrev rzT_withName : Room := { frames := 0, cells := 0, slots := 0, locals := 0 }
set_option maxHeartbeats 4000000 in
set_option maxRecDepth 100000 in
theorem kT_withName (l : Launch) (dC : Nat → ClassId) (dI : Nat → Nat → Nat) (a : Nat → Nat) (k : Nat → ClassId) (b : sk_Ob) (t : sk_Tr) (f : sk_Fi) (wt : sk_F) (si : Nat) (x : Int32) (hT : sk_TO b.1 t) (hs : si < t.1) : Met l yT_withName wzT_withName rzT_withName (va_Pc [.ref (a 2), .int (nI si), .int x] (sk_PX dC dI a k (b, t, f) wt)) (va_Qi (fun r (_ : Unit) => r = sk_wn t si x) (fun _ _ => True) (fun _ => False)) 0 0 (fun _ => False) := by
  refine Met.ofW (cc := cT_withName) (maxL := 4) (ret := (some .int)) (by decide) rfl ?_
  intro p e s m args below meth c s₁ B hml hv
  obtain ⟨rfl, hP, hK, hN⟩ := hv
  have hx := B.exec
  have hb := B.bytes
  have hr := B.returns
  have hts : ∀ w ∈ sk_W, w.before ([.ref (a 2), .int (nI si), .int x] : List Value).toArray s = true := fun w h => atoms_spec (ws := wzT_withName) B.pre w (List.mem_cons_of_mem _ h)
  have hown : s.vm.findClass RT = some m.cls := findClass_of_methodNamed B.named
  have hlocks := B.notSynchronized
  have hS : va_S (fun _ => False) s.heap s.heap [] := va_S.rf
  have hP : va_P (dC, dI) vwCl (sk_wR a k (nI b.1) b.2.1 b.2.2.1 b.2.2.2.1 b.2.2.2.2 (nI t.1) t.2.1 t.2.2.1 t.2.2.2.1 t.2.2.2.2 (nI f.1) (nI (sk_there f)) (nI (f.1 % 100)) f.2.1 f.2.2.1 f.2.2.2.1 f.2.2.2.2.1 (fun i => lN (sk_nb (f.2.2.2.2.2.1 i))) (fun i => sk_bI (f.2.2.2.2.2.2 i)) wt) s.heap := hP
  have hl := lv_entry ([.ref (a 2), .int (nI si), .int x]) (n := 4) (Nat.le_of_ble_eq_true rfl)
  rw [lg_entry_eq]
  generalize (lg_sl ([.ref (a 2), .int (nI si), .int x]) ++ List.replicate (4 - (lg_sl ([.ref (a 2), .int (nI si), .int x])).length) Slot.unset).toArray = ls at hl ⊢
  have hl : lv_has ls 4 [(0, .ref (a 2)), (1, .int (nI si)), (2, .int x)] := hl
  have h200 : t.1 ≤ 200 := hT.2.1
  have h60 : b.1 ≤ 60 := hT.2.2.1
  refine lv_iload_n hx hb dT_withName_0 rfl (lv_at hl 1 rfl) ?_
  refine lv_iconst (v := nI 1) hx hb dT_withName_1 (by decide) ?_
  refine lv_iadd hx hb dT_withName_2 ?_
  refine lv_topi (fun x2 e2 => ?_)
  obtain rfl : x2 = nI (si + 1) := e2.trans (nI_add _ _)
  refine lv_istore_n (lv' := [(3, .int (nI (si + 1))), (0, .ref (a 2)), (1, .int (nI si)), (2, .int x)]) hx hb dT_withName_3 rfl hl (by decide) rfl (fun ls hl => ?_)
  have loop1 : ∀ (nn : Nat) (i : Nat), si + 1 ≤ i → i ≤ t.1 → sk_ff (fun i => (decide (t.2.2.1 i = nI si) && decide (t.2.2.2.1 i = x))) (t.1 - i) i = sk_wn t si x → t.1 - i < nn → ∀ ls : Array Slot, lv_has ls 4 [(3, .int (nI i)), (0, .ref (a 2)), (1, .int (nI si)), (2, .int x)] → W p l e (headSpec wzT_withName rzT_withName).room s m ([.ref (a 2), .int (nI si), .int x] : List Value).toArray below meth c s.heap [] 0 0 (MQ below (va_Qi (fun r (_ : Unit) => r = sk_wn t si x) (fun _ _ => True) (fun _ => False)) ([.ref (a 2), .int (nI si), .int x] : List Value).toArray s 0 0 (fun _ => False)) (F0 m 4 ls []) := by
    intro nn
    induction nn with
    | zero => intro i hi0 hi he hmu; exact absurd hmu (Nat.not_lt_zero _)
    | succ nn ih1 =>
      intro i hi0 hi he hmu ls hl
      refine lv_iload_n hx hb dT_withName_4 rfl (lv_at hl 0 rfl) ?_
      refine lv_aload_n hx hb dT_withName_5 rfl (lv_at hl 1 rfl) ?_
      refine va_get (D := (dC, dI)) (ci := 2) (v := .int (nI t.1)) (C := RT) (T := TT) (N := 5) hx hb hts inT hown hK hP 2 rfl rfl 4 (by decide) (hts _ wfT_24) (fun _ h9 => h9) rfl dT_withName_6 ?_
      refine lv_icmp_ge (tgt := 40) hx hb dT_withName_9 (by decide) (fun c9 => ?_) (fun c9 => ?_)
      · skip
        have n9 : t.1 ≤ i := (nI_leI (a := t.1) (b := i) (by omega) (by omega)).mp c9
        refine lv_iconst (v := (-1)) hx hb dT_withName_40 (by decide) ?_
        exact W.iret (v := (-1)) hx hb hr (fun U9 ht hW => ⟨⟨(-1), (), rfl, sk_ff_end n9 he, trivial⟩, hS.F ht⟩) hS.2.2 dT_withName_41
      · skip
        have n9 : ¬ t.1 ≤ i := fun z9 => c9 ((nI_leI (a := t.1) (b := i) (by omega) (by omega)).mpr z9)
        refine lv_aload_n hx hb dT_withName_12 rfl (lv_at hl 1 rfl) ?_
        refine va_get (D := (dC, dI)) (ci := 2) (v := .ref (a 10)) (C := RT) (T := TT) (N := 5) hx hb hts inT hown hK hP 2 rfl rfl 1 (by decide) (hts _ wfT_15) (fun _ h9 => h9) rfl dT_withName_13 ?_
        refine lv_iload_n hx hb dT_withName_16 rfl (lv_at hl 0 rfl) ?_
        refine va_iald hx hb hK hP 10 0 rfl rfl (vp_in_nI (show i < 200 by omega) (by decide)) dT_withName_17 ?_
        refine lv_topi (fun x17 e17 => ?_)
        rw [nI_clamp (show i < 2 ^ 31 by omega)] at e17
        refine lv_iload_n hx hb dT_withName_18 rfl (lv_at hl 2 rfl) ?_
        refine lv_icmp_ne (tgt := 34) hx hb dT_withName_19 (by decide) (fun c19 => ?_) (fun c19 => ?_)
        · skip
          refine lv_iinc (v := nI (i + 1)) (lv' := [(3, .int (nI (i + 1))), (0, .ref (a 2)), (1, .int (nI si)), (2, .int x)]) hx hb dT_withName_34 hl (k := 0) rfl (sk_inc _) (by decide) rfl (fun ls hl => ?_)
          refine lv_goto (tgt := 4) hx hb dT_withName_37 (by decide) ?_
          exact ih1 (i + 1) (by omega) (Nat.succ_le_of_lt (Nat.lt_of_not_le n9)) (sk_ff_miss (Nat.lt_of_not_le n9) he (by show (decide (t.2.2.1 i = nI si) && decide (t.2.2.2.1 i = x)) = false; rw [← e17]; simp [c19])) (by omega) ls (lv_sub hl [0, 1, 2, 3] rfl)
        · skip
          refine lv_aload_n hx hb dT_withName_22 rfl (lv_at hl 1 rfl) ?_
          refine va_get (D := (dC, dI)) (ci := 2) (v := .ref (a 11)) (C := RT) (T := TT) (N := 5) hx hb hts inT hown hK hP 2 rfl rfl 2 (by decide) (hts _ wfT_18) (fun _ h9 => h9) rfl dT_withName_23 ?_
          refine lv_iload_n hx hb dT_withName_26 rfl (lv_at hl 0 rfl) ?_
          refine va_iald hx hb hK hP 11 0 rfl rfl (vp_in_nI (show i < 200 by omega) (by decide)) dT_withName_27 ?_
          refine lv_topi (fun x27 e27 => ?_)
          rw [nI_clamp (show i < 2 ^ 31 by omega)] at e27
          refine lv_iload_n hx hb dT_withName_28 rfl (lv_at hl 3 rfl) ?_
          refine lv_icmp_ne (tgt := 34) hx hb dT_withName_29 (by decide) (fun c29 => ?_) (fun c29 => ?_)
          · skip
            refine lv_iinc (v := nI (i + 1)) (lv' := [(3, .int (nI (i + 1))), (0, .ref (a 2)), (1, .int (nI si)), (2, .int x)]) hx hb dT_withName_34 hl (k := 0) rfl (sk_inc _) (by decide) rfl (fun ls hl => ?_)
            refine lv_goto (tgt := 4) hx hb dT_withName_37 (by decide) ?_
            exact ih1 (i + 1) (by omega) (Nat.succ_le_of_lt (Nat.lt_of_not_le n9)) (sk_ff_miss (Nat.lt_of_not_le n9) he (by show (decide (t.2.2.1 i = nI si) && decide (t.2.2.2.1 i = x)) = false; rw [← e27]; simp [c29])) (by omega) ls (lv_sub hl [0, 1, 2, 3] rfl)
          · skip
            refine lv_iload_n hx hb dT_withName_32 rfl (lv_at hl 0 rfl) ?_
            exact W.iret (v := nI i) hx hb hr (fun U9 ht hW => ⟨⟨nI i, (), rfl, sk_ff_hit (Nat.lt_of_not_le n9) he (by show (decide (t.2.2.1 i = nI si) && decide (t.2.2.2.1 i = x)) = true; rw [← e17, ← e27]; simp [c19, c29]), trivial⟩, hS.F ht⟩) hS.2.2 dT_withName_33
  exact loop1 (t.1 - (si + 1) + 1) (si + 1) (Nat.le_refl _) (hs) (rfl) (Nat.lt_succ_self _) ls (lv_sub hl [0, 1, 2, 3] rfl)
abbrev wzT_placeOf : List Cond := .code yT_placeOf cT_placeOf 5 (some .int) :: sk_W
abbrev rzT_placeOf : Room := { frames := 0, cells := 0, slots := 0, locals := 0 }
set_option maxHeartbeats 4000000 in
set_option maxRecDepth 100000 in
theorem kT_placeOf (l : Launch) (dC : Nat → ClassId) (dI : Nat → Nat → Nat) (a : Nat → Nat) (k : Nat → ClassId) (b : sk_Ob) (t : sk_Tr) (f : sk_Fi) (wt : sk_F) (si : Nat) (x : Int32) (hT : sk_TO b.1 t) (hs : si < t.1) : Met l yT_placeOf wzT_placeOf rzT_placeOf (va_Pc [.ref (a 2), .int (nI si), .int x] (sk_PX dC dI a k (b, t, f) wt)) (va_Qi (fun r (_ : Unit) => r = sk_place t x si) (fun _ _ => True) (fun _ => False)) 0 0 (fun _ => False) := by
  refine Met.ofW (cc := cT_placeOf) (maxL := 5) (ret := (some .int)) (by decide) rfl ?_
  intro p e s m args below meth c s₁ B hml hv
  obtain ⟨rfl, hP, hK, hN⟩ := hv
  have hx := B.exec
  have hb := B.bytes
  have hr := B.returns
  have hts : ∀ w ∈ sk_W, w.before ([.ref (a 2), .int (nI si), .int x] : List Value).toArray s = true := fun w h => atoms_spec (ws := wzT_placeOf) B.pre w (List.mem_cons_of_mem _ h)
  have hown : s.vm.findClass RT = some m.cls := findClass_of_methodNamed B.named
  have hlocks := B.notSynchronized
  have hS : va_S (fun _ => False) s.heap s.heap [] := va_S.rf
  have hP : va_P (dC, dI) vwCl (sk_wR a k (nI b.1) b.2.1 b.2.2.1 b.2.2.2.1 b.2.2.2.2 (nI t.1) t.2.1 t.2.2.1 t.2.2.2.1 t.2.2.2.2 (nI f.1) (nI (sk_there f)) (nI (f.1 % 100)) f.2.1 f.2.2.1 f.2.2.2.1 f.2.2.2.2.1 (fun i => lN (sk_nb (f.2.2.2.2.2.1 i))) (fun i => sk_bI (f.2.2.2.2.2.2 i)) wt) s.heap := hP
  have hl := lv_entry ([.ref (a 2), .int (nI si), .int x]) (n := 5) (Nat.le_of_ble_eq_true rfl)
  rw [lg_entry_eq]
  generalize (lg_sl ([.ref (a 2), .int (nI si), .int x]) ++ List.replicate (5 - (lg_sl ([.ref (a 2), .int (nI si), .int x])).length) Slot.unset).toArray = ls at hl ⊢
  have hl : lv_has ls 5 [(0, .ref (a 2)), (1, .int (nI si)), (2, .int x)] := hl
  have h200 : t.1 ≤ 200 := hT.2.1
  have h60 : b.1 ≤ 60 := hT.2.2.1
  obtain ⟨g, hg, hle, hlen⟩ := sk_lenOk hT hs
  refine lv_iload_n hx hb dT_placeOf_0 rfl (lv_at hl 1 rfl) ?_
  refine lv_istore_n (lv' := [(3, .int (nI si)), (0, .ref (a 2)), (1, .int (nI si)), (2, .int x)]) hx hb dT_placeOf_1 rfl hl (by decide) rfl (fun ls hl => ?_)
  refine lv_aload_n hx hb dT_placeOf_2 rfl (lv_at hl 1 rfl) ?_
  refine va_get (D := (dC, dI)) (ci := 2) (v := .ref (a 12)) (C := RT) (T := TT) (N := 5) hx hb hts inT hown hK hP 2 rfl rfl 3 (by decide) (hts _ wfT_21) (fun _ h9 => h9) rfl dT_placeOf_3 ?_
  refine lv_iload_n hx hb dT_placeOf_6 rfl (lv_at hl 2 rfl) ?_
  refine va_iald hx hb hK hP 12 0 rfl rfl (vp_in_nI (show si < 200 by omega) (by decide)) dT_placeOf_7 ?_
  refine lv_topi (fun x7 e7 => ?_)
  rw [nI_clamp (show si < 2 ^ 31 by omega)] at e7
  obtain rfl : x7 = nI g := e7.trans (hle)
  refine lv_iconst (v := nI 1) hx hb dT_placeOf_8 (by decide) ?_
  refine lv_isub hx hb dT_placeOf_9 ?_
  refine lv_topi (fun x9 e9 => ?_)
  obtain rfl : x9 = nI g - nI 1 := e9.trans (rfl)
  refine lv_istore (lv' := [(4, .int (nI g - nI 1)), (3, .int (nI si)), (0, .ref (a 2)), (1, .int (nI si)), (2, .int x)]) hx hb dT_placeOf_10 hl (by decide) rfl (fun ls hl => ?_)
  have loop1 : ∀ (nn : Nat) (kk q : Nat), kk ≤ 12 → (0 < kk → q < t.1 ∧ sk_len t q = kk) → sk_pl t x kk q = sk_place t x si → kk < nn → ∀ ls : Array Slot, lv_has ls 5 [(4, .int (nI kk - nI 1)), (3, .int (nI q)), (0, .ref (a 2)), (1, .int (nI si)), (2, .int x)] → W p l e (headSpec wzT_placeOf rzT_placeOf).room s m ([.ref (a 2), .int (nI si), .int x] : List Value).toArray below meth c s.heap [] 0 0 (MQ below (va_Qi (fun r (_ : Unit) => r = sk_place t x si) (fun _ _ => True) (fun _ => False)) ([.ref (a 2), .int (nI si), .int x] : List Value).toArray s 0 0 (fun _ => False)) (F0 m 12 ls []) := by
    intro nn
    induction nn with
    | zero => intro kk q hkk hq he hmu; exact absurd hmu (Nat.not_lt_zero _)
    | succ nn ih1 =>
      intro kk q hkk hq he hmu ls hl
      refine lv_iload hx hb dT_placeOf_12 (lv_at hl 0 rfl) ?_
      refine lv_if_lt (tgt := 43) hx hb dT_placeOf_14 (by decide) (fun c14 => ?_) (fun c14 => ?_)
      · skip
        have hk0 : kk = 0 := sk_pd0 hkk c14
        refine lv_iconst (v := (-1)) hx hb dT_placeOf_43 (by decide) ?_
        exact W.iret (v := (-1)) hx hb hr (fun U9 ht hW => ⟨⟨(-1), (), rfl, by rw [← he, hk0]; rfl, trivial⟩, hS.F ht⟩) hS.2.2 dT_placeOf_44
      · skip
        have hk1 : 0 < kk := sk_pd1 c14
        obtain ⟨hq1, hq2⟩ := hq hk1
        obtain ⟨j, hj, hog, hlj⟩ := sk_parent hT hq1 hq2 hk1
        refine lv_aload_n hx hb dT_placeOf_17 rfl (lv_at hl 2 rfl) ?_
        refine va_get (D := (dC, dI)) (ci := 2) (v := .ref (a 11)) (C := RT) (T := TT) (N := 5) hx hb hts inT hown hK hP 2 rfl rfl 2 (by decide) (hts _ wfT_18) (fun _ h9 => h9) rfl dT_placeOf_18 ?_
        refine lv_iload_n hx hb dT_placeOf_21 rfl (lv_at hl 1 rfl) ?_
        refine va_iald hx hb hK hP 11 0 rfl rfl (vp_in_nI (show q < 200 by omega) (by decide)) dT_placeOf_22 ?_
        refine lv_topi (fun x22 e22 => ?_)
        rw [nI_clamp (show q < 2 ^ 31 by omega)] at e22
        refine lv_iload_n hx hb dT_placeOf_23 rfl (lv_at hl 4 rfl) ?_
        refine lv_icmp_ne (tgt := 30) hx hb dT_placeOf_24 (by decide) (fun c24 => ?_) (fun c24 => ?_)
        · skip
          refine lv_aload_n hx hb dT_placeOf_30 rfl (lv_at hl 2 rfl) ?_
          refine va_get (D := (dC, dI)) (ci := 2) (v := .ref (a 10)) (C := RT) (T := TT) (N := 5) hx hb hts inT hown hK hP 2 rfl rfl 1 (by decide) (hts _ wfT_15) (fun _ h9 => h9) rfl dT_placeOf_31 ?_
          refine lv_iload_n hx hb dT_placeOf_34 rfl (lv_at hl 1 rfl) ?_
          refine va_iald hx hb hK hP 10 0 rfl rfl (vp_in_nI (show q < 200 by omega) (by decide)) dT_placeOf_35 ?_
          refine lv_topi (fun x35 e35 => ?_)
          rw [nI_clamp (show q < 2 ^ 31 by omega)] at e35
          obtain rfl : x35 = nI j := e35.trans (hog)
          refine lv_istore_n (lv' := [(3, .int (nI j)), (4, .int (nI kk - nI 1)), (0, .ref (a 2)), (1, .int (nI si)), (2, .int x)]) hx hb dT_placeOf_36 rfl hl (by decide) rfl (fun ls hl => ?_)
          refine lv_iinc (v := nI (kk - 1) - nI 1) (lv' := [(4, .int (nI (kk - 1) - nI 1)), (3, .int (nI j)), (0, .ref (a 2)), (1, .int (nI si)), (2, .int x)]) hx hb dT_placeOf_37 hl (k := 1) rfl (sk_pdec hk1) (by decide) rfl (fun ls hl => ?_)
          refine lv_goto (tgt := 12) hx hb dT_placeOf_40 (by decide) ?_
          exact ih1 (kk - 1) j (by omega) (fun _ => ⟨by omega, hlj⟩) (sk_pl_miss hk1 he (by rw [← e22]; exact c24) (by omega) hog) (by omega) ls (lv_sub hl [0, 1, 2, 3, 4] rfl)
        · skip
          refine lv_iload hx hb dT_placeOf_27 (lv_at hl 0 rfl) ?_
          exact W.iret (v := nI kk - nI 1) hx hb hr (fun U9 ht hW => ⟨⟨nI kk - nI 1, (), rfl, sk_pl_hit hk1 he (by rw [← e22]; exact c24), trivial⟩, hS.F ht⟩) hS.2.2 dT_placeOf_29
  exact loop1 (g + 1) g si (hg) (fun _ => ⟨hs, hlen⟩) (by unfold sk_place; rw [hlen]) (Nat.lt_succ_self _) ls (lv_sub hl [0, 1, 2, 3, 4] rfl)
abbrev wzT_nameAt : List Cond := .code yT_nameAt cT_nameAt 6 (some .int) :: sk_W
abbrev rzT_nameAt : Room := { frames := 0, cells := 0, slots := 0, locals := 0 }
set_option maxHeartbeats 4000000 in
set_option maxRecDepth 100000 in
theorem kT_nameAt (l : Launch) (dC : Nat → ClassId) (dI : Nat → Nat → Nat) (a : Nat → Nat) (k : Nat → ClassId) (b : sk_Ob) (t : sk_Tr) (f : sk_Fi) (wt : sk_F) (si : Nat) (x : Int32) (hT : sk_TO b.1 t) (hs : si < t.1) : Met l yT_nameAt wzT_nameAt rzT_nameAt (va_Pc [.ref (a 2), .int (nI si), .int x] (sk_PX dC dI a k (b, t, f) wt)) (va_Qi (fun r (_ : Unit) => r = if sk_hasB (sk_len t si) x = true then sk_nm t si x.toNatClampNeg else -1) (fun _ _ => True) (fun _ => False)) 0 0 (fun _ => False) := by
  refine Met.ofW (cc := cT_nameAt) (maxL := 6) (ret := (some .int)) (by decide) rfl ?_
  intro p e s m args below meth c s₁ B hml hv
  obtain ⟨rfl, hP, hK, hN⟩ := hv
  have hx := B.exec
  have hb := B.bytes
  have hr := B.returns
  have hts : ∀ w ∈ sk_W, w.before ([.ref (a 2), .int (nI si), .int x] : List Value).toArray s = true := fun w h => atoms_spec (ws := wzT_nameAt) B.pre w (List.mem_cons_of_mem _ h)
  have hown : s.vm.findClass RT = some m.cls := findClass_of_methodNamed B.named
  have hlocks := B.notSynchronized
  have hS : va_S (fun _ => False) s.heap s.heap [] := va_S.rf
  have hP : va_P (dC, dI) vwCl (sk_wR a k (nI b.1) b.2.1 b.2.2.1 b.2.2.2.1 b.2.2.2.2 (nI t.1) t.2.1 t.2.2.1 t.2.2.2.1 t.2.2.2.2 (nI f.1) (nI (sk_there f)) (nI (f.1 % 100)) f.2.1 f.2.2.1 f.2.2.2.1 f.2.2.2.2.1 (fun i => lN (sk_nb (f.2.2.2.2.2.1 i))) (fun i => sk_bI (f.2.2.2.2.2.2 i)) wt) s.heap := hP
  have hl := lv_entry ([.ref (a 2), .int (nI si), .int x]) (n := 6) (Nat.le_of_ble_eq_true rfl)
  rw [lg_entry_eq]
  generalize (lg_sl ([.ref (a 2), .int (nI si), .int x]) ++ List.replicate (6 - (lg_sl ([.ref (a 2), .int (nI si), .int x])).length) Slot.unset).toArray = ls at hl ⊢
  have hl : lv_has ls 6 [(0, .ref (a 2)), (1, .int (nI si)), (2, .int x)] := hl
  have h200 : t.1 ≤ 200 := hT.2.1
  have h60 : b.1 ≤ 60 := hT.2.2.1
  obtain ⟨g, hg, hle, hlen⟩ := sk_lenOk hT hs
  refine lv_aload_n hx hb dT_nameAt_0 rfl (lv_at hl 0 rfl) ?_
  refine va_get (D := (dC, dI)) (ci := 2) (v := .ref (a 12)) (C := RT) (T := TT) (N := 5) hx hb hts inT hown hK hP 2 rfl rfl 3 (by decide) (hts _ wfT_21) (fun _ h9 => h9) rfl dT_nameAt_1 ?_
  refine lv_iload_n hx hb dT_nameAt_4 rfl (lv_at hl 1 rfl) ?_
  refine va_iald hx hb hK hP 12 0 rfl rfl (vp_in_nI (show si < 200 by omega) (by decide)) dT_nameAt_5 ?_
  refine lv_topi (fun x5 e5 => ?_)
  rw [nI_clamp (show si < 2 ^ 31 by omega)] at e5
  obtain rfl : x5 = nI g := e5.trans (hle)
  refine lv_iconst (v := nI 1) hx hb dT_nameAt_6 (by decide) ?_
  refine lv_isub hx hb dT_nameAt_7 ?_
  refine lv_topi (fun x7 e7 => ?_)
  obtain rfl : x7 = nI g - nI 1 := e7.trans (rfl)
  refine lv_istore_n (lv' := [(3, .int (nI g - nI 1)), (0, .ref (a 2)), (1, .int (nI si)), (2, .int x)]) hx hb dT_nameAt_8 rfl hl (by decide) rfl (fun ls hl => ?_)
  refine lv_iload_n hx hb dT_nameAt_9 rfl (lv_at hl 3 rfl) ?_
  refine lv_if_lt (tgt := 18) hx hb dT_nameAt_10 (by decide) (fun c10 => ?_) (fun c10 => ?_)
  · skip
    refine lv_iconst (v := (-1)) hx hb dT_nameAt_18 (by decide) ?_
    exact W.iret (v := (-1)) hx hb hr (fun U9 ht hW => ⟨⟨(-1), (), rfl, (if_neg (by rw [hlen]; intro q; have q2 := sk_hasB_f1 (n := g) c10; rw [q] at q2; exact absurd q2 (by decide))).symm, trivial⟩, hS.F ht⟩) hS.2.2 dT_nameAt_19
  · skip
    refine lv_iload_n hx hb dT_nameAt_13 rfl (lv_at hl 3 rfl) ?_
    refine lv_iload_n hx hb dT_nameAt_14 rfl (lv_at hl 0 rfl) ?_
    refine lv_icmp_le (tgt := 20) hx hb dT_nameAt_15 (by decide) (fun c15 => ?_) (fun c15 => ?_)
    · skip
      obtain ⟨kp, hkp, ekp⟩ := sk_plin hg c10 c15
      rw [show nI g - nI 1 = nI (g - 1) from pk_sub (by omega), ekp] at hl
      refine lv_iload_n hx hb dT_nameAt_20 rfl (lv_at hl 2 rfl) ?_
      refine lv_istore (lv' := [(4, .int (nI si)), (3, .int (nI (g - 1))), (0, .ref (a 2)), (1, .int (nI si)), (2, .int (nI kp))]) hx hb dT_nameAt_21 hl (by decide) rfl (fun ls hl => ?_)
      refine lv_iload_n hx hb dT_nameAt_23 rfl (lv_at hl 1 rfl) ?_
      refine lv_istore (lv' := [(5, .int (nI (g - 1))), (4, .int (nI si)), (3, .int (nI (g - 1))), (0, .ref (a 2)), (1, .int (nI si)), (2, .int (nI kp))]) hx hb dT_nameAt_24 hl (by decide) rfl (fun ls hl => ?_)
      have loop1 : ∀ (nn : Nat) (ii q : Nat), kp ≤ ii → ii < g → q < t.1 → sk_len t q = ii + 1 → t.2.2.2.1 (sk_up t (ii - kp) q) = sk_nm t si kp → ii - kp < nn → ∀ ls : Array Slot, lv_has ls 6 [(5, .int (nI ii)), (4, .int (nI q)), (0, .ref (a 2)), (1, .int (nI si)), (2, .int (nI kp)), (3, .int (nI (g - 1)))] → W p l e (headSpec wzT_nameAt rzT_nameAt).room s m ([.ref (a 2), .int (nI si), .int x] : List Value).toArray below meth c s.heap [] 0 0 (MQ below (va_Qi (fun r (_ : Unit) => r = if sk_hasB (sk_len t si) x = true then sk_nm t si x.toNatClampNeg else -1) (fun _ _ => True) (fun _ => False)) ([.ref (a 2), .int (nI si), .int x] : List Value).toArray s 0 0 (fun _ => False)) (F0 m 26 ls []) := by
        intro nn
        induction nn with
        | zero => intro ii q hii hig hq hlq hu hmu; exact absurd hmu (Nat.not_lt_zero _)
        | succ nn ih1 =>
          intro ii q hii hig hq hlq hu hmu ls hl
          refine lv_iload hx hb dT_nameAt_26 (lv_at hl 0 rfl) ?_
          refine lv_iload_n hx hb dT_nameAt_28 rfl (lv_at hl 4 rfl) ?_
          refine lv_icmp_le (tgt := 47) hx hb dT_nameAt_29 (by decide) (fun c29 => ?_) (fun c29 => ?_)
          · skip
            have n29 : ii ≤ kp := (nI_leI (a := ii) (b := kp) (by omega) (by omega)).mp c29
            refine lv_aload_n hx hb dT_nameAt_47 rfl (lv_at hl 2 rfl) ?_
            refine va_get (D := (dC, dI)) (ci := 2) (v := .ref (a 11)) (C := RT) (T := TT) (N := 5) hx hb hts inT hown hK hP 2 rfl rfl 2 (by decide) (hts _ wfT_18) (fun _ h9 => h9) rfl dT_nameAt_48 ?_
            refine lv_iload hx hb dT_nameAt_51 (lv_at hl 1 rfl) ?_
            refine va_iald hx hb hK hP 11 0 rfl rfl (vp_in_nI (show q < 200 by omega) (by decide)) dT_nameAt_53 ?_
            refine lv_topi (fun x53 e53 => ?_)
            rw [nI_clamp (show q < 2 ^ 31 by omega)] at e53
            exact W.iret (v := x53) hx hb hr (fun U9 ht hW => ⟨⟨x53, (), rfl, by rw [if_pos (by rw [hlen, ekp]; exact sk_hasB_nI (by omega) hkp), e53, ekp, nI_clamp (by omega), ← hu, show ii - kp = 0 by omega]; rfl, trivial⟩, hS.F ht⟩) hS.2.2 dT_nameAt_54
          · skip
            have n29 : ¬ ii ≤ kp := fun z9 => c29 ((nI_leI (a := ii) (b := kp) (by omega) (by omega)).mpr z9)
            obtain ⟨j, hj, hog, hlj⟩ := sk_parent hT hq hlq (Nat.succ_pos ii)
            refine lv_aload_n hx hb dT_nameAt_32 rfl (lv_at hl 2 rfl) ?_
            refine va_get (D := (dC, dI)) (ci := 2) (v := .ref (a 10)) (C := RT) (T := TT) (N := 5) hx hb hts inT hown hK hP 2 rfl rfl 1 (by decide) (hts _ wfT_15) (fun _ h9 => h9) rfl dT_nameAt_33 ?_
            refine lv_iload hx hb dT_nameAt_36 (lv_at hl 1 rfl) ?_
            refine va_iald hx hb hK hP 10 0 rfl rfl (vp_in_nI (show q < 200 by omega) (by decide)) dT_nameAt_38 ?_
            refine lv_topi (fun x38 e38 => ?_)
            rw [nI_clamp (show q < 2 ^ 31 by omega)] at e38
            obtain rfl : x38 = nI j := e38.trans (hog)
            refine lv_istore (lv' := [(4, .int (nI j)), (5, .int (nI ii)), (0, .ref (a 2)), (1, .int (nI si)), (2, .int (nI kp)), (3, .int (nI (g - 1)))]) hx hb dT_nameAt_39 hl (by decide) rfl (fun ls hl => ?_)
            refine lv_iinc (v := nI (ii - 1)) (lv' := [(5, .int (nI (ii - 1))), (4, .int (nI j)), (0, .ref (a 2)), (1, .int (nI si)), (2, .int (nI kp)), (3, .int (nI (g - 1)))]) hx hb dT_nameAt_41 hl (k := 1) rfl (by rw [show ii = (ii - 1) + 1 by omega]; exact pk_m1 _) (by decide) rfl (fun ls hl => ?_)
            refine lv_goto (tgt := 26) hx hb dT_nameAt_44 (by decide) ?_
            exact ih1 (ii - 1) j (by omega) (by omega) (by omega) (by omega) (by rw [← hu, show ii - kp = (ii - 1 - kp) + 1 by omega]; show _ = t.2.2.2.1 (sk_up t (ii - 1 - kp) (t.2.2.1 q).toNatClampNeg); rw [hog, nI_clamp (by omega)]) (by omega) ls (lv_sub hl [0, 1, 2, 3, 4, 5] rfl)
      exact loop1 (g - 1 - kp + 1) (g - 1) si (by omega) (by omega) (hs) (by omega) (by unfold sk_nm; rw [hlen]) (Nat.lt_succ_self _) ls (lv_sub hl [0, 1, 3, 4, 5, 2] rfl)
    · skip
      refine lv_iconst (v := (-1)) hx hb dT_nameAt_18 (by decide) ?_
      exact W.iret (v := (-1)) hx hb hr (fun U9 ht hW => ⟨⟨(-1), (), rfl, (if_neg (by rw [hlen]; intro q; have q2 := sk_hasB_f2 (n := g) (sk_plout hg c15); rw [q] at q2; exact absurd q2 (by decide))).symm, trivial⟩, hS.F ht⟩) hS.2.2 dT_nameAt_19
