abbrev wzO_canBePrototype : List Cond := .code yO_canBePrototype cO_canBePrototype 2 (some .boolean) :: sk_W
abbrev rzO_canBePrototype : Room := { frames := 1, cells := 0, slots := 0, locals := 21 }
set_option maxHeartbeats 4000000 in
set_option maxRecDepth 100000 in
theorem kO_canBePrototype (l : Launch) (dC : Nat → ClassId) (dI : Nat → Nat → Nat) (a : Nat → Nat) (k : Nat → ClassId) (b : sk_Ob) (t : sk_Tr) (f : sk_Fi) (wt : sk_F) (x : Int32)  : Met l yO_canBePrototype wzO_canBePrototype rzO_canBePrototype (va_Pc [.ref (a 1), .int x] (sk_PX dC dI a k (b, t, f) wt)) (va_Qi (fun r (_ : Unit) => r = sk_bI (sk_canP b.1 x)) (fun _ _ => True) (fun _ => False)) 0 0 (fun _ => False) := by
  refine Met.ofW (cc := cO_canBePrototype) (maxL := 2) (ret := (some .boolean)) (by decide) rfl ?_
  intro p e s m args below meth c s₁ B hml hv
  obtain ⟨rfl, hP, hK, hN⟩ := hv
  have hx := B.exec
  have hb := B.bytes
  have hr := B.returns
  have hts : ∀ w ∈ sk_W, w.before ([.ref (a 1), .int x] : List Value).toArray s = true := fun w h => atoms_spec (ws := wzO_canBePrototype) B.pre w (List.mem_cons_of_mem _ h)
  have hown : s.vm.findClass RO = some m.cls := findClass_of_methodNamed B.named
  have hlocks := B.notSynchronized
  have hS : va_S (fun _ => False) s.heap s.heap [] := va_S.rf
  have hP : va_P (dC, dI) vwCl (sk_wR a k (nI b.1) b.2.1 b.2.2.1 b.2.2.2.1 b.2.2.2.2 (nI t.1) t.2.1 t.2.2.1 t.2.2.2.1 t.2.2.2.2 (nI f.1) (nI (sk_there f)) (nI (f.1 % 100)) f.2.1 f.2.2.1 f.2.2.2.1 f.2.2.2.2.1 (fun i => lN (sk_nb (f.2.2.2.2.2.1 i))) (fun i => sk_bI (f.2.2.2.2.2.2 i)) wt) s.heap := hP
  have hl := lv_entry ([.ref (a 1), .int x]) (n := 2) (Nat.le_of_ble_eq_true rfl)
  rw [lg_entry_eq]
  generalize (lg_sl ([.ref (a 1), .int x]) ++ List.replicate (2 - (lg_sl ([.ref (a 1), .int x])).length) Slot.unset).toArray = ls at hl ⊢
  have hl : lv_has ls 2 [(0, .ref (a 1)), (1, .int x)] := hl
  refine lv_iload_n hx hb dO_canBePrototype_0 rfl (lv_at hl 1 rfl) ?_
  refine lv_iconst (v := (-1)) hx hb dO_canBePrototype_1 (by decide) ?_
  refine lv_icmp_eq (tgt := 13) hx hb dO_canBePrototype_2 (by decide) (fun c2 => ?_) (fun c2 => ?_)
  · skip
    refine lv_iconst (v := nI 1) hx hb dO_canBePrototype_13 (by decide) ?_
    refine lv_goto (tgt := 18) hx hb dO_canBePrototype_14 (by decide) ?_
    exact W.zret (v := nI 1) hx hb hr (by decide) (fun U9 ht hW => ⟨⟨nI 1, (), rfl, sk_canP_t1 c2, trivial⟩, hS.F ht⟩) hS.2.2 dO_canBePrototype_18
  · skip
    refine lv_aload_n hx hb dO_canBePrototype_5 rfl (lv_at hl 0 rfl) ?_
    refine lv_iload_n hx hb dO_canBePrototype_6 rfl (lv_at hl 1 rfl) ?_
    refine va_calli (va_runV (As := [.int x]) (rest := []) ⟨hx, hb, hml, hown, hts⟩ (kO_has l dC dI a k b t f wt x) (cwV 1 hts (sk_gV wmO_30 wiO_has wsO_has wnO wcO_has) rfl rfl rfl (by decide +kernel) ⟨Nat.le_of_ble_eq_true rfl, Nat.le_of_ble_eq_true rfl⟩) ⟨sk_blind _, va_recv hK hP (ci := 1) (q0 := 1) rfl rfl, fun U hU hW => ⟨rfl, sk_at (S := (b, t, f)) (wt := wt) hP hK hN hU hW⟩⟩ rfl rfl hl.1 rfl (lv_room (Nat.le_of_ble_eq_true rfl)) dO_canBePrototype_7 ⟨Nat.le_of_ble_eq_true rfl, Nat.le_of_ble_eq_true rfl⟩) hS (fun _ _ h => h.elim) (fun _ h => h.elim) (fun r7 u7 U9 H locs ht hvm w7 hB hz hk hS => ?_)
    have hP : va_P (dC, dI) vwCl (sk_wR a k (nI b.1) b.2.1 b.2.2.1 b.2.2.2.1 b.2.2.2.2 (nI t.1) t.2.1 t.2.2.1 t.2.2.2.1 t.2.2.2.2 (nI f.1) (nI (sk_there f)) (nI (f.1 % 100)) f.2.1 f.2.2.1 f.2.2.2.1 f.2.2.2.2.1 (fun i => lN (sk_nb (f.2.2.2.2.2.1 i))) (fun i => sk_bI (f.2.2.2.2.2.2 i)) wt) H := hP.kept (fun j q hq => hk q.1 ((hP j q hq).lt) (fun h => h))
    clear hk hB ht
    rcases sk_bI_or (sk_hasB b.1 x) with ⟨h7, hv⟩ | ⟨h7, hv⟩
    · skip
      obtain rfl : r7 = nI 1 := w7.trans hv
      refine lv_if_eq (tgt := 17) hx hb dO_canBePrototype_10 (by decide) (fun q => absurd q (by decide)) (fun _ => ?_)
      refine lv_iconst (v := nI 1) hx hb dO_canBePrototype_13 (by decide) ?_
      refine lv_goto (tgt := 18) hx hb dO_canBePrototype_14 (by decide) ?_
      exact W.zret (v := nI 1) hx hb hr (by decide) (fun U9 ht hW => ⟨⟨nI 1, (), rfl, sk_canP_t2 h7, trivial⟩, hS.F ht⟩) hS.2.2 dO_canBePrototype_18
    · skip
      obtain rfl : r7 = nI 0 := w7.trans hv
      refine lv_if_eq (tgt := 17) hx hb dO_canBePrototype_10 (by decide) (fun _ => ?_) (fun q => absurd (by decide) q)
      refine lv_iconst (v := nI 0) hx hb dO_canBePrototype_17 (by decide) ?_
      exact W.zret (v := nI 0) hx hb hr (by decide) (fun U9 ht hW => ⟨⟨nI 0, (), rfl, sk_canP_f c2 h7, trivial⟩, hS.F ht⟩) hS.2.2 dO_canBePrototype_18
abbrev wzO_add : List Cond := .code yO_add cO_add 4 (some .int) :: sk_W
abbrev rzO_add : Room := { frames := 0, cells := 0, slots := 0, locals := 0 }
set_option maxHeartbeats 4000000 in
set_option maxRecDepth 100000 in
theorem kO_add (l : Launch) (dC : Nat → ClassId) (dI : Nat → Nat → Nat) (a : Nat → Nat) (k : Nat → ClassId) (b : sk_Ob) (t : sk_Tr) (f : sk_Fi) (wt : sk_F) (A : Nat → Prop) (x y : Int32) (hn : b.1 < 60) : Met l yO_add wzO_add rzO_add (va_Pc [.ref (a 1), .int x, .int y] (fun U => sk_PX dC dI a k (b, t, f) wt U ∧ va_D A (sk_wX a k (b, t, f) wt))) (va_Qi (fun r (u : sk_S × sk_F) => r = nI b.1 ∧ u = (((b.1 + 1, upd b.2.1 b.1 x, upd b.2.2.1 b.1 y, b.2.2.2.1, b.2.2.2.2), t, f), wt)) (fun u U => va_P (dC, dI) vwCl (sk_wX a k u.1 u.2) U.heap ∧ va_D A (sk_wX a k u.1 u.2)) A) 0 0 A := by
  refine Met.ofW (cc := cO_add) (maxL := 4) (ret := (some .int)) (by decide) rfl ?_
  intro p e s m args below meth c s₁ B hml hv
  obtain ⟨rfl, ⟨hP, hK, hN⟩, hD⟩ := hv
  have hx := B.exec
  have hb := B.bytes
  have hr := B.returns
  have hts : ∀ w ∈ sk_W, w.before ([.ref (a 1), .int x, .int y] : List Value).toArray s = true := fun w h => atoms_spec (ws := wzO_add) B.pre w (List.mem_cons_of_mem _ h)
  have hown : s.vm.findClass RO = some m.cls := findClass_of_methodNamed B.named
  have hlocks := B.notSynchronized
  have hS : va_S A s.heap s.heap [] := va_S.rf
  have hP : va_P (dC, dI) vwCl (sk_wR a k (nI b.1) b.2.1 b.2.2.1 b.2.2.2.1 b.2.2.2.2 (nI t.1) t.2.1 t.2.2.1 t.2.2.2.1 t.2.2.2.2 (nI f.1) (nI (sk_there f)) (nI (f.1 % 100)) f.2.1 f.2.2.1 f.2.2.2.1 f.2.2.2.2.1 (fun i => lN (sk_nb (f.2.2.2.2.2.1 i))) (fun i => sk_bI (f.2.2.2.2.2.2 i)) wt) s.heap := hP
  have hD : va_D A (sk_wR a k (nI b.1) b.2.1 b.2.2.1 b.2.2.2.1 b.2.2.2.2 (nI t.1) t.2.1 t.2.2.1 t.2.2.2.1 t.2.2.2.2 (nI f.1) (nI (sk_there f)) (nI (f.1 % 100)) f.2.1 f.2.2.1 f.2.2.2.1 f.2.2.2.2.1 (fun i => lN (sk_nb (f.2.2.2.2.2.1 i))) (fun i => sk_bI (f.2.2.2.2.2.2 i)) wt) := hD
  have hl := lv_entry ([.ref (a 1), .int x, .int y]) (n := 4) (Nat.le_of_ble_eq_true rfl)
  rw [lg_entry_eq]
  generalize (lg_sl ([.ref (a 1), .int x, .int y]) ++ List.replicate (4 - (lg_sl ([.ref (a 1), .int x, .int y])).length) Slot.unset).toArray = ls at hl ⊢
  have hl : lv_has ls 4 [(0, .ref (a 1)), (1, .int x), (2, .int y)] := hl
  refine lv_aload_n hx hb dO_add_0 rfl (lv_at hl 0 rfl) ?_
  refine va_get (D := (dC, dI)) (ci := 1) (v := .int (nI b.1)) (C := RO) (T := TO) (N := 5) hx hb hts inO hown hK hP 1 rfl rfl 4 (by decide) (hts _ wfO_26) (fun _ h9 => h9) rfl dO_add_1 ?_
  refine lv_istore_n (lv' := [(3, .int (nI b.1)), (0, .ref (a 1)), (1, .int x), (2, .int y)]) hx hb dO_add_4 rfl hl (by decide) rfl (fun ls hl => ?_)
  refine lv_aload_n hx hb dO_add_5 rfl (lv_at hl 1 rfl) ?_
  refine va_get (D := (dC, dI)) (ci := 1) (v := .ref (a 5)) (C := RO) (T := TO) (N := 5) hx hb hts inO hown hK hP 1 rfl rfl 0 (by decide) (hts _ wfO_9) (fun _ h9 => h9) rfl dO_add_6 ?_
  refine lv_iload_n hx hb dO_add_9 rfl (lv_at hl 0 rfl) ?_
  refine lv_iload_n hx hb dO_add_10 rfl (lv_at hl 2 rfl) ?_
  refine va_iast hx hb hK hP hD hS 5 0 rfl rfl (vp_in_nI (show b.1 < 60 by omega) (by decide)) dO_add_11 (fun H locs hP hD hS => ?_)
  rw [nI_clamp (show b.1 < 2 ^ 31 by omega)] at hP hD
  have hP : va_P (dC, dI) vwCl (sk_wR a k (nI b.1) (upd b.2.1 b.1 x) b.2.2.1 b.2.2.2.1 b.2.2.2.2 (nI t.1) t.2.1 t.2.2.1 t.2.2.2.1 t.2.2.2.2 (nI f.1) (nI (sk_there f)) (nI (f.1 % 100)) f.2.1 f.2.2.1 f.2.2.2.1 f.2.2.2.2.1 (fun i => lN (sk_nb (f.2.2.2.2.2.1 i))) (fun i => sk_bI (f.2.2.2.2.2.2 i)) wt) H := hP
  have hD : va_D A (sk_wR a k (nI b.1) (upd b.2.1 b.1 x) b.2.2.1 b.2.2.2.1 b.2.2.2.2 (nI t.1) t.2.1 t.2.2.1 t.2.2.2.1 t.2.2.2.2 (nI f.1) (nI (sk_there f)) (nI (f.1 % 100)) f.2.1 f.2.2.1 f.2.2.2.1 f.2.2.2.2.1 (fun i => lN (sk_nb (f.2.2.2.2.2.1 i))) (fun i => sk_bI (f.2.2.2.2.2.2 i)) wt) := hD
  refine lv_aload_n hx hb dO_add_12 rfl (lv_at hl 1 rfl) ?_
  refine va_get (D := (dC, dI)) (ci := 1) (v := .ref (a 6)) (C := RO) (T := TO) (N := 5) hx hb hts inO hown hK hP 1 rfl rfl 1 (by decide) (hts _ wfO_15) (fun _ h9 => h9) rfl dO_add_13 ?_
  refine lv_iload_n hx hb dO_add_16 rfl (lv_at hl 0 rfl) ?_
  refine lv_iload_n hx hb dO_add_17 rfl (lv_at hl 3 rfl) ?_
  refine va_iast hx hb hK hP hD hS 6 0 rfl rfl (vp_in_nI (show b.1 < 60 by omega) (by decide)) dO_add_18 (fun H locs hP hD hS => ?_)
  rw [nI_clamp (show b.1 < 2 ^ 31 by omega)] at hP hD
  have hP : va_P (dC, dI) vwCl (sk_wR a k (nI b.1) (upd b.2.1 b.1 x) (upd b.2.2.1 b.1 y) b.2.2.2.1 b.2.2.2.2 (nI t.1) t.2.1 t.2.2.1 t.2.2.2.1 t.2.2.2.2 (nI f.1) (nI (sk_there f)) (nI (f.1 % 100)) f.2.1 f.2.2.1 f.2.2.2.1 f.2.2.2.2.1 (fun i => lN (sk_nb (f.2.2.2.2.2.1 i))) (fun i => sk_bI (f.2.2.2.2.2.2 i)) wt) H := hP
  have hD : va_D A (sk_wR a k (nI b.1) (upd b.2.1 b.1 x) (upd b.2.2.1 b.1 y) b.2.2.2.1 b.2.2.2.2 (nI t.1) t.2.1 t.2.2.1 t.2.2.2.1 t.2.2.2.2 (nI f.1) (nI (sk_there f)) (nI (f.1 % 100)) f.2.1 f.2.2.1 f.2.2.2.1 f.2.2.2.2.1 (fun i => lN (sk_nb (f.2.2.2.2.2.1 i))) (fun i => sk_bI (f.2.2.2.2.2.2 i)) wt) := hD
  refine lv_aload_n hx hb dO_add_19 rfl (lv_at hl 1 rfl) ?_
  refine lv_dup hx hb dO_add_20 rfl ?_
  refine va_get (D := (dC, dI)) (ci := 1) (v := .int (nI b.1)) (C := RO) (T := TO) (N := 5) hx hb hts inO hown hK hP 1 rfl rfl 4 (by decide) (hts _ wfO_26) (fun _ h9 => h9) rfl dO_add_21 ?_
  refine lv_iconst (v := nI 1) hx hb dO_add_24 (by decide) ?_
  refine lv_iadd hx hb dO_add_25 ?_
  refine lv_topi (fun x25 e25 => ?_)
  obtain rfl : x25 = nI (b.1 + 1) := e25.trans (nI_add _ _)
  refine va_put (D := (dC, dI)) (ci := 1) (v := .int (nI (b.1 + 1))) (ty := .int) (C := RO) (T := TO) (N := 5) hx hb hts inO tyO tyO_ok nmO hown hK hP hD hS 1 rfl rfl 4 (by decide) (hts _ wfO_26) (fun _ h9 => h9) rfl (by decide +kernel) rfl rfl (Nat.le_of_ble_eq_true rfl) dO_add_26 (fun H locs hP hD hS => ?_)
  have hP : va_P (dC, dI) vwCl (sk_wR a k (nI (b.1 + 1)) (upd b.2.1 b.1 x) (upd b.2.2.1 b.1 y) b.2.2.2.1 b.2.2.2.2 (nI t.1) t.2.1 t.2.2.1 t.2.2.2.1 t.2.2.2.2 (nI f.1) (nI (sk_there f)) (nI (f.1 % 100)) f.2.1 f.2.2.1 f.2.2.2.1 f.2.2.2.2.1 (fun i => lN (sk_nb (f.2.2.2.2.2.1 i))) (fun i => sk_bI (f.2.2.2.2.2.2 i)) wt) H := hP
  have hD : va_D A (sk_wR a k (nI (b.1 + 1)) (upd b.2.1 b.1 x) (upd b.2.2.1 b.1 y) b.2.2.2.1 b.2.2.2.2 (nI t.1) t.2.1 t.2.2.1 t.2.2.2.1 t.2.2.2.2 (nI f.1) (nI (sk_there f)) (nI (f.1 % 100)) f.2.1 f.2.2.1 f.2.2.2.1 f.2.2.2.2.1 (fun i => lN (sk_nb (f.2.2.2.2.2.1 i))) (fun i => sk_bI (f.2.2.2.2.2.2 i)) wt) := hD
  refine lv_iload_n hx hb dO_add_29 rfl (lv_at hl 0 rfl) ?_
  exact W.iret (v := nI b.1) hx hb hr (fun U9 ht hW => ⟨⟨nI b.1, (((b.1 + 1, upd b.2.1 b.1 x, upd b.2.2.1 b.1 y, b.2.2.2.1, b.2.2.2.2), t, f), wt), rfl, ⟨rfl, rfl⟩, sk_endw ht hP hD⟩, hS.F ht⟩) hS.2.2 dO_add_30
abbrev wzO_closeGap : List Cond := .code yO_closeGap cO_closeGap 4 none :: sk_W
abbrev rzO_closeGap : Room := { frames := 0, cells := 0, slots := 0, locals := 0 }
set_option maxHeartbeats 4000000 in
set_option maxRecDepth 100000 in
theorem kO_closeGap (l : Launch) (dC : Nat → ClassId) (dI : Nat → Nat → Nat) (a : Nat → Nat) (k : Nat → ClassId) (b : sk_Ob) (t : sk_Tr) (f : sk_Fi) (wt : sk_F) (A : Nat → Prop) (o g : Nat) (ho : o < 60) (hg : g < 12) : Met l yO_closeGap wzO_closeGap rzO_closeGap (va_Pc [.ref (a 1), .int (nI o), .int (nI g)] (fun U => sk_PX dC dI a k (b, t, f) wt U ∧ va_D A (sk_wX a k (b, t, f) wt))) (va_Qv (fun (u : sk_S × sk_F) => u = ((sk_gap b o g, t, f), wt)) (fun u U => va_P (dC, dI) vwCl (sk_wX a k u.1 u.2) U.heap ∧ va_D A (sk_wX a k u.1 u.2)) A) 0 0 A := by
  refine Met.ofW (cc := cO_closeGap) (maxL := 4) (ret := none) (by decide) rfl ?_
  intro p e s m args below meth c s₁ B hml hv
  obtain ⟨rfl, ⟨hP, hK, hN⟩, hD⟩ := hv
  have hx := B.exec
  have hb := B.bytes
  have hr := B.returns
  have hts : ∀ w ∈ sk_W, w.before ([.ref (a 1), .int (nI o), .int (nI g)] : List Value).toArray s = true := fun w h => atoms_spec (ws := wzO_closeGap) B.pre w (List.mem_cons_of_mem _ h)
  have hown : s.vm.findClass RO = some m.cls := findClass_of_methodNamed B.named
  have hlocks := B.notSynchronized
  have hS : va_S A s.heap s.heap [] := va_S.rf
  have hP : va_P (dC, dI) vwCl (sk_wR a k (nI b.1) b.2.1 b.2.2.1 b.2.2.2.1 b.2.2.2.2 (nI t.1) t.2.1 t.2.2.1 t.2.2.2.1 t.2.2.2.2 (nI f.1) (nI (sk_there f)) (nI (f.1 % 100)) f.2.1 f.2.2.1 f.2.2.2.1 f.2.2.2.2.1 (fun i => lN (sk_nb (f.2.2.2.2.2.1 i))) (fun i => sk_bI (f.2.2.2.2.2.2 i)) wt) s.heap := hP
  have hD : va_D A (sk_wR a k (nI b.1) b.2.1 b.2.2.1 b.2.2.2.1 b.2.2.2.2 (nI t.1) t.2.1 t.2.2.1 t.2.2.2.1 t.2.2.2.2 (nI f.1) (nI (sk_there f)) (nI (f.1 % 100)) f.2.1 f.2.2.1 f.2.2.2.1 f.2.2.2.2.1 (fun i => lN (sk_nb (f.2.2.2.2.2.1 i))) (fun i => sk_bI (f.2.2.2.2.2.2 i)) wt) := hD
  have hl := lv_entry ([.ref (a 1), .int (nI o), .int (nI g)]) (n := 4) (Nat.le_of_ble_eq_true rfl)
  rw [lg_entry_eq]
  generalize (lg_sl ([.ref (a 1), .int (nI o), .int (nI g)]) ++ List.replicate (4 - (lg_sl ([.ref (a 1), .int (nI o), .int (nI g)])).length) Slot.unset).toArray = ls at hl ⊢
  have hl : lv_has ls 4 [(0, .ref (a 1)), (1, .int (nI o)), (2, .int (nI g))] := hl
  refine lv_iload_n hx hb dO_closeGap_0 rfl (lv_at hl 2 rfl) ?_
  refine lv_istore_n (lv' := [(3, .int (nI g)), (0, .ref (a 1)), (1, .int (nI o)), (2, .int (nI g))]) hx hb dO_closeGap_1 rfl hl (by decide) rfl (fun ls hl => ?_)
  have loop1 : ∀ (nn : Nat) (i : Nat), g ≤ i → i ≤ 11 → 11 - i < nn → ∀ (H : Heap) (locs : List Loc), va_P (dC, dI) vwCl (sk_wR a k (nI (b.1, b.2.1, b.2.2.1, b.2.2.2.1, va_up b.2.2.2.2 o (sk_shf (b.2.2.2.2 o) g i)).1) ((b.1, b.2.1, b.2.2.1, b.2.2.2.1, va_up b.2.2.2.2 o (sk_shf (b.2.2.2.2 o) g i)).2.1) ((b.1, b.2.1, b.2.2.1, b.2.2.2.1, va_up b.2.2.2.2 o (sk_shf (b.2.2.2.2 o) g i)).2.2.1) ((b.1, b.2.1, b.2.2.1, b.2.2.2.1, va_up b.2.2.2.2 o (sk_shf (b.2.2.2.2 o) g i)).2.2.2.1) ((b.1, b.2.1, b.2.2.1, b.2.2.2.1, va_up b.2.2.2.2 o (sk_shf (b.2.2.2.2 o) g i)).2.2.2.2) (nI t.1) t.2.1 t.2.2.1 t.2.2.2.1 t.2.2.2.2 (nI f.1) (nI (sk_there f)) (nI (f.1 % 100)) f.2.1 f.2.2.1 f.2.2.2.1 f.2.2.2.2.1 (fun i => lN (sk_nb (f.2.2.2.2.2.1 i))) (fun i => sk_bI (f.2.2.2.2.2.2 i)) wt) H → va_D A (sk_wR a k (nI (b.1, b.2.1, b.2.2.1, b.2.2.2.1, va_up b.2.2.2.2 o (sk_shf (b.2.2.2.2 o) g i)).1) ((b.1, b.2.1, b.2.2.1, b.2.2.2.1, va_up b.2.2.2.2 o (sk_shf (b.2.2.2.2 o) g i)).2.1) ((b.1, b.2.1, b.2.2.1, b.2.2.2.1, va_up b.2.2.2.2 o (sk_shf (b.2.2.2.2 o) g i)).2.2.1) ((b.1, b.2.1, b.2.2.1, b.2.2.2.1, va_up b.2.2.2.2 o (sk_shf (b.2.2.2.2 o) g i)).2.2.2.1) ((b.1, b.2.1, b.2.2.1, b.2.2.2.1, va_up b.2.2.2.2 o (sk_shf (b.2.2.2.2 o) g i)).2.2.2.2) (nI t.1) t.2.1 t.2.2.1 t.2.2.2.1 t.2.2.2.2 (nI f.1) (nI (sk_there f)) (nI (f.1 % 100)) f.2.1 f.2.2.1 f.2.2.2.1 f.2.2.2.2.1 (fun i => lN (sk_nb (f.2.2.2.2.2.1 i))) (fun i => sk_bI (f.2.2.2.2.2.2 i)) wt) → va_S A s.heap H locs → ∀ ls : Array Slot, lv_has ls 4 [(3, .int (nI i)), (0, .ref (a 1)), (1, .int (nI o)), (2, .int (nI g))] → W p l e (headSpec wzO_closeGap rzO_closeGap).room s m ([.ref (a 1), .int (nI o), .int (nI g)] : List Value).toArray below meth c H locs 0 0 (MQ below (va_Qv (fun (u : sk_S × sk_F) => u = ((sk_gap b o g, t, f), wt)) (fun u U => va_P (dC, dI) vwCl (sk_wX a k u.1 u.2) U.heap ∧ va_D A (sk_wX a k u.1 u.2)) A) ([.ref (a 1), .int (nI o), .int (nI g)] : List Value).toArray s 0 0 A) (F0 m 2 ls []) := by
    intro nn
    induction nn with
    | zero => intro i hi hi2 hmu; exact absurd hmu (Nat.not_lt_zero _)
    | succ nn ih1 =>
      intro i hi hi2 hmu H locs hP hD hS ls hl
      refine lv_iload_n hx hb dO_closeGap_2 rfl (lv_at hl 0 rfl) ?_
      refine lv_iconst (v := nI 1) hx hb dO_closeGap_3 (by decide) ?_
      refine lv_iadd hx hb dO_closeGap_4 ?_
      refine lv_topi (fun x4 e4 => ?_)
      obtain rfl : x4 = nI (i + 1) := e4.trans (nI_add _ _)
      refine lv_bipush (v := nI 12) hx hb dO_closeGap_5 (by decide) ?_
      refine lv_icmp_ge (tgt := 34) hx hb dO_closeGap_7 (by decide) (fun c7 => ?_) (fun c7 => ?_)
      · skip
        have n7 : 12 ≤ (i + 1) := (nI_leI (a := 12) (b := (i + 1)) (by omega) (by omega)).mp c7
        have hi11 : i = 11 := by omega
        subst hi11
        exact W.vret hx hb hr (fun U9 ht hW => ⟨⟨(((b.1, b.2.1, b.2.2.1, b.2.2.2.1, va_up b.2.2.2.2 o (sk_shf (b.2.2.2.2 o) g 11)), t, f), wt), rfl, rfl, sk_endw ht hP hD⟩, hS.F ht⟩) hS.2.2 dO_closeGap_34
      · skip
        have n7 : ¬ 12 ≤ (i + 1) := fun z9 => c7 ((nI_leI (a := 12) (b := (i + 1)) (by omega) (by omega)).mpr z9)
        refine lv_aload_n hx hb dO_closeGap_10 rfl (lv_at hl 1 rfl) ?_
        refine va_get (D := (dC, dI)) (ci := 1) (v := .ref (a 8)) (C := RO) (T := TO) (N := 5) hx hb hts inO hown hK hP 1 rfl rfl 3 (by decide) (hts _ wfO_23) (fun _ h9 => h9) rfl dO_closeGap_11 ?_
        refine lv_iload_n hx hb dO_closeGap_14 rfl (lv_at hl 2 rfl) ?_
        refine sk_aald hx hb hK hP (show o < 60 by omega) dO_closeGap_15 ?_
        refine lv_iload_n hx hb dO_closeGap_16 rfl (lv_at hl 0 rfl) ?_
        refine lv_aload_n hx hb dO_closeGap_17 rfl (lv_at hl 1 rfl) ?_
        refine va_get (D := (dC, dI)) (ci := 1) (v := .ref (a 8)) (C := RO) (T := TO) (N := 5) hx hb hts inO hown hK hP 1 rfl rfl 3 (by decide) (hts _ wfO_23) (fun _ h9 => h9) rfl dO_closeGap_18 ?_
        refine lv_iload_n hx hb dO_closeGap_21 rfl (lv_at hl 2 rfl) ?_
        refine sk_aald hx hb hK hP (show o < 60 by omega) dO_closeGap_22 ?_
        refine lv_iload_n hx hb dO_closeGap_23 rfl (lv_at hl 0 rfl) ?_
        refine lv_iconst (v := nI 1) hx hb dO_closeGap_24 (by decide) ?_
        refine lv_iadd hx hb dO_closeGap_25 ?_
        refine lv_topi (fun x25 e25 => ?_)
        obtain rfl : x25 = nI (i + 1) := e25.trans (nI_add _ _)
        refine va_iald hx hb hK hP (19 + o) 0 (sk_row_get (show o < 60 by omega)) rfl (vp_in_nI (show (i + 1) < 12 by omega) (by decide)) dO_closeGap_26 ?_
        refine lv_topi (fun x26 e26 => ?_)
        rw [nI_clamp (show (i + 1) < 2 ^ 31 by omega)] at e26
        refine va_iast hx hb hK hP hD hS (19 + o) 0 (sk_row_get (show o < 60 by omega)) rfl (vp_in_nI (show i < 12 by omega) (by decide)) dO_closeGap_27 (fun H locs hP hD hS => ?_)
        rw [nI_clamp (show i < 2 ^ 31 by omega), sk_row_set (show o < 60 by omega)] at hP hD
        have hP : va_P (dC, dI) vwCl (sk_wR a k (nI (b.1, b.2.1, b.2.2.1, b.2.2.2.1, va_up b.2.2.2.2 o (sk_shf (b.2.2.2.2 o) g i)).1) ((b.1, b.2.1, b.2.2.1, b.2.2.2.1, va_up b.2.2.2.2 o (sk_shf (b.2.2.2.2 o) g i)).2.1) ((b.1, b.2.1, b.2.2.1, b.2.2.2.1, va_up b.2.2.2.2 o (sk_shf (b.2.2.2.2 o) g i)).2.2.1) ((b.1, b.2.1, b.2.2.1, b.2.2.2.1, va_up b.2.2.2.2 o (sk_shf (b.2.2.2.2 o) g i)).2.2.2.1) (va_up ((b.1, b.2.1, b.2.2.1, b.2.2.2.1, va_up b.2.2.2.2 o (sk_shf (b.2.2.2.2 o) g i)).2.2.2.2) o (upd (((b.1, b.2.1, b.2.2.1, b.2.2.2.1, va_up b.2.2.2.2 o (sk_shf (b.2.2.2.2 o) g i)).2.2.2.2) o) i x26)) (nI t.1) t.2.1 t.2.2.1 t.2.2.2.1 t.2.2.2.2 (nI f.1) (nI (sk_there f)) (nI (f.1 % 100)) f.2.1 f.2.2.1 f.2.2.2.1 f.2.2.2.2.1 (fun i => lN (sk_nb (f.2.2.2.2.2.1 i))) (fun i => sk_bI (f.2.2.2.2.2.2 i)) wt) H := hP
        have hD : va_D A (sk_wR a k (nI (b.1, b.2.1, b.2.2.1, b.2.2.2.1, va_up b.2.2.2.2 o (sk_shf (b.2.2.2.2 o) g i)).1) ((b.1, b.2.1, b.2.2.1, b.2.2.2.1, va_up b.2.2.2.2 o (sk_shf (b.2.2.2.2 o) g i)).2.1) ((b.1, b.2.1, b.2.2.1, b.2.2.2.1, va_up b.2.2.2.2 o (sk_shf (b.2.2.2.2 o) g i)).2.2.1) ((b.1, b.2.1, b.2.2.1, b.2.2.2.1, va_up b.2.2.2.2 o (sk_shf (b.2.2.2.2 o) g i)).2.2.2.1) (va_up ((b.1, b.2.1, b.2.2.1, b.2.2.2.1, va_up b.2.2.2.2 o (sk_shf (b.2.2.2.2 o) g i)).2.2.2.2) o (upd (((b.1, b.2.1, b.2.2.1, b.2.2.2.1, va_up b.2.2.2.2 o (sk_shf (b.2.2.2.2 o) g i)).2.2.2.2) o) i x26)) (nI t.1) t.2.1 t.2.2.1 t.2.2.2.1 t.2.2.2.2 (nI f.1) (nI (sk_there f)) (nI (f.1 % 100)) f.2.1 f.2.2.1 f.2.2.2.1 f.2.2.2.2.1 (fun i => lN (sk_nb (f.2.2.2.2.2.1 i))) (fun i => sk_bI (f.2.2.2.2.2.2 i)) wt) := hD
        refine lv_iinc (v := nI (i + 1)) (lv' := [(3, .int (nI (i + 1))), (0, .ref (a 1)), (1, .int (nI o)), (2, .int (nI g))]) hx hb dO_closeGap_28 hl (k := 0) rfl (sk_inc _) (by decide) rfl (fun ls hl => ?_)
        refine lv_goto (tgt := 2) hx hb dO_closeGap_31 (by decide) ?_
        rw [sk_upup, show upd (va_up b.2.2.2.2 o (sk_shf (b.2.2.2.2 o) g i) o) i x26 = sk_shf (b.2.2.2.2 o) g (i + 1) by rw [e26]; show upd (va_up b.2.2.2.2 o (sk_shf (b.2.2.2.2 o) g i) o) i (va_up b.2.2.2.2 o (sk_shf (b.2.2.2.2 o) g i) o (i + 1)) = _; rw [va_up_self]; exact sk_shf_s hi] at hP hD
        exact ih1 (i + 1) (by omega) (by omega) (by omega) _ _ hP hD hS ls (lv_sub hl [0, 1, 2, 3] rfl)
  rw [show b.2.2.2.2 = va_up b.2.2.2.2 o (sk_shf (b.2.2.2.2 o) g g) by rw [sk_shf_0, sk_upsame]] at hP hD
  exact loop1 (11 - g + 1) g (Nat.le_refl _) (by omega) (Nat.lt_succ_self _) _ _ hP hD hS ls (lv_sub hl [0, 1, 2, 3] rfl)
abbrev wzO_leadsTo : List Cond := .code yO_leadsTo cO_leadsTo 5 (some .boolean) :: sk_W
abbrev rzO_leadsTo : Room := { frames := 0, cells := 0, slots := 0, locals := 0 }
set_option maxHeartbeats 4000000 in
set_option maxRecDepth 100000 in
theorem kO_leadsTo (l : Launch) (dC : Nat → ClassId) (dI : Nat → Nat → Nat) (a : Nat → Nat) (k : Nat → ClassId) (b : sk_Ob) (t : sk_Tr) (f : sk_Fi) (wt : sk_F) (x : Int32) (o : Nat) (hA : sk_AC b.1 b.2.1) (hx9 : sk_v b.1 x) (ho : o < b.1) : Met l yO_leadsTo wzO_leadsTo rzO_leadsTo (va_Pc [.ref (a 1), .int x, .int (nI o)] (sk_PX dC dI a k (b, t, f) wt)) (va_Qi (fun r (_ : Unit) => r = sk_bI (decide (o ∈ sk_abv b.2.1 x))) (fun _ _ => True) (fun _ => False)) 0 0 (fun _ => False) := by
  refine Met.ofW (cc := cO_leadsTo) (maxL := 5) (ret := (some .boolean)) (by decide) rfl ?_
  intro p e s m args below meth c s₁ B hml hv
  obtain ⟨rfl, hP, hK, hN⟩ := hv
  have hx := B.exec
  have hb := B.bytes
  have hr := B.returns
  have hts : ∀ w ∈ sk_W, w.before ([.ref (a 1), .int x, .int (nI o)] : List Value).toArray s = true := fun w h => atoms_spec (ws := wzO_leadsTo) B.pre w (List.mem_cons_of_mem _ h)
  have hown : s.vm.findClass RO = some m.cls := findClass_of_methodNamed B.named
  have hlocks := B.notSynchronized
  have hS : va_S (fun _ => False) s.heap s.heap [] := va_S.rf
  have hP : va_P (dC, dI) vwCl (sk_wR a k (nI b.1) b.2.1 b.2.2.1 b.2.2.2.1 b.2.2.2.2 (nI t.1) t.2.1 t.2.2.1 t.2.2.2.1 t.2.2.2.2 (nI f.1) (nI (sk_there f)) (nI (f.1 % 100)) f.2.1 f.2.2.1 f.2.2.2.1 f.2.2.2.2.1 (fun i => lN (sk_nb (f.2.2.2.2.2.1 i))) (fun i => sk_bI (f.2.2.2.2.2.2 i)) wt) s.heap := hP
  have hl := lv_entry ([.ref (a 1), .int x, .int (nI o)]) (n := 5) (Nat.le_of_ble_eq_true rfl)
  rw [lg_entry_eq]
  generalize (lg_sl ([.ref (a 1), .int x, .int (nI o)]) ++ List.replicate (5 - (lg_sl ([.ref (a 1), .int x, .int (nI o)])).length) Slot.unset).toArray = ls at hl ⊢
  have hl : lv_has ls 5 [(0, .ref (a 1)), (1, .int x), (2, .int (nI o))] := hl
  have h60 : b.1 ≤ 60 := hA.1
  refine lv_iload_n hx hb dO_leadsTo_0 rfl (lv_at hl 1 rfl) ?_
  refine lv_istore_n (lv' := [(3, .int x), (0, .ref (a 1)), (1, .int x), (2, .int (nI o))]) hx hb dO_leadsTo_1 rfl hl (by decide) rfl (fun ls hl => ?_)
  refine lv_iconst (v := nI 0) hx hb dO_leadsTo_2 (by decide) ?_
  refine lv_istore (lv' := [(4, .int (nI 0)), (3, .int x), (0, .ref (a 1)), (1, .int x), (2, .int (nI o))]) hx hb dO_leadsTo_3 hl (by decide) rfl (fun ls hl => ?_)
  have loop1 : ∀ (nn : Nat) (z : Int32) (st : Nat), sk_v b.1 z → st + (sk_abv b.2.1 z).length ≤ 60 → decide (o ∈ sk_abv b.2.1 z) = decide (o ∈ sk_abv b.2.1 x) → (sk_abv b.2.1 z).length < nn → ∀ ls : Array Slot, lv_has ls 5 [(4, .int (nI st)), (3, .int z), (0, .ref (a 1)), (1, .int x), (2, .int (nI o))] → W p l e (headSpec wzO_leadsTo rzO_leadsTo).room s m ([.ref (a 1), .int x, .int (nI o)] : List Value).toArray below meth c s.heap [] 0 0 (MQ below (va_Qi (fun r (_ : Unit) => r = sk_bI (decide (o ∈ sk_abv b.2.1 x))) (fun _ _ => True) (fun _ => False)) ([.ref (a 1), .int x, .int (nI o)] : List Value).toArray s 0 0 (fun _ => False)) (F0 m 5 ls []) := by
    intro nn
    induction nn with
    | zero => intro z st hz hst he hmu; exact absurd hmu (Nat.not_lt_zero _)
    | succ nn ih1 =>
      intro z st hz hst he hmu ls hl
      rcases hz with rfl | ⟨q, hq, rfl⟩
      · skip
        refine lv_iload_n hx hb dO_leadsTo_5 rfl (lv_at hl 1 rfl) ?_
        refine lv_iconst (v := (-1)) hx hb dO_leadsTo_6 (by decide) ?_
        refine lv_icmp_eq (tgt := 37) hx hb dO_leadsTo_7 (by decide) (fun _ => ?_) (fun q => absurd (by decide) q)
        refine lv_iconst (v := nI 0) hx hb dO_leadsTo_37 (by decide) ?_
        exact W.zret (v := nI 0) hx hb hr (by decide) (fun U9 ht hW => ⟨⟨nI 0, (), rfl, by rw [← he, sk_abv_m1, decide_eq_false List.not_mem_nil]; rfl, trivial⟩, hS.F ht⟩) hS.2.2 dO_leadsTo_38
      · skip
        have hs9 := sk_abv_s hA hq
        have hl9 : (sk_abv b.2.1 (nI q)).length = (sk_abv b.2.1 (b.2.1 q)).length + 1 := by rw [hs9]; rfl
        refine lv_iload_n hx hb dO_leadsTo_5 rfl (lv_at hl 1 rfl) ?_
        refine lv_iconst (v := (-1)) hx hb dO_leadsTo_6 (by decide) ?_
        refine lv_icmp_eq (tgt := 37) hx hb dO_leadsTo_7 (by decide) (fun c7 => ?_) (fun c7 => ?_)
        · skip
          exact absurd c7 (sk_nm1 (by omega))
        · skip
          refine lv_iload hx hb dO_leadsTo_10 (lv_at hl 0 rfl) ?_
          refine lv_bipush (v := nI 60) hx hb dO_leadsTo_12 (by decide) ?_
          refine lv_icmp_ge (tgt := 37) hx hb dO_leadsTo_14 (by decide) (fun c14 => ?_) (fun c14 => ?_)
          · skip
            have n14 : 60 ≤ st := (nI_leI (a := 60) (b := st) (by omega) (by omega)).mp c14
            omega
          · skip
            have n14 : ¬ 60 ≤ st := fun z9 => c14 ((nI_leI (a := 60) (b := st) (by omega) (by omega)).mpr z9)
            refine lv_iload_n hx hb dO_leadsTo_17 rfl (lv_at hl 1 rfl) ?_
            refine lv_iload_n hx hb dO_leadsTo_18 rfl (lv_at hl 4 rfl) ?_
            refine lv_icmp_ne (tgt := 24) hx hb dO_leadsTo_19 (by decide) (fun c19 => ?_) (fun c19 => ?_)
            · skip
              have n19 : ¬ q = o := fun z9 => c19 ((nI_eq (a := q) (b := o) (by omega) (by omega)).mpr z9)
              refine lv_aload_n hx hb dO_leadsTo_24 rfl (lv_at hl 2 rfl) ?_
              refine va_get (D := (dC, dI)) (ci := 1) (v := .ref (a 5)) (C := RO) (T := TO) (N := 5) hx hb hts inO hown hK hP 1 rfl rfl 0 (by decide) (hts _ wfO_9) (fun _ h9 => h9) rfl dO_leadsTo_25 ?_
              refine lv_iload_n hx hb dO_leadsTo_28 rfl (lv_at hl 1 rfl) ?_
              refine va_iald hx hb hK hP 5 0 rfl rfl (vp_in_nI (show q < 60 by omega) (by decide)) dO_leadsTo_29 ?_
              refine lv_topi (fun x29 e29 => ?_)
              rw [nI_clamp (show q < 2 ^ 31 by omega)] at e29
              refine lv_istore_n (lv' := [(3, .int x29), (4, .int (nI st)), (0, .ref (a 1)), (1, .int x), (2, .int (nI o))]) hx hb dO_leadsTo_30 rfl hl (by decide) rfl (fun ls hl => ?_)
              refine lv_iinc (v := nI (st + 1)) (lv' := [(4, .int (nI (st + 1))), (3, .int x29), (0, .ref (a 1)), (1, .int x), (2, .int (nI o))]) hx hb dO_leadsTo_31 hl (k := 1) rfl (sk_inc _) (by decide) rfl (fun ls hl => ?_)
              refine lv_goto (tgt := 5) hx hb dO_leadsTo_34 (by decide) ?_
              have hmx : (sk_abv b.2.1 x29).length < nn := by rw [e29]; omega
              exact ih1 x29 (st + 1) (by rw [e29]; exact hA.2.1 q hq) (by rw [e29]; omega) (by rw [e29, ← he, hs9]; simp [show ¬ o = q from fun z9 => n19 z9.symm]) (by omega) ls (lv_sub hl [0, 1, 2, 3, 4] rfl)
            · skip
              have n19 : q = o := (nI_eq (a := q) (b := o) (by omega) (by omega)).mp c19
              refine lv_iconst (v := nI 1) hx hb dO_leadsTo_22 (by decide) ?_
              exact W.zret (v := nI 1) hx hb hr (by decide) (fun U9 ht hW => ⟨⟨nI 1, (), rfl, by rw [← he, hs9, n19, decide_eq_true List.mem_cons_self]; rfl, trivial⟩, hS.F ht⟩) hS.2.2 dO_leadsTo_23
  exact loop1 ((sk_abv b.2.1 x).length + 1) x 0 (hx9) (by have := sk_abv_len b.2.1 x; omega) (rfl) (Nat.lt_succ_self _) ls (lv_sub hl [0, 1, 2, 3, 4] rfl)
abbrev wzO_way : List Cond := .code yO_way cO_way 7 (some .long) :: sk_W
abbrev rzO_way : Room := { frames := 0, cells := 0, slots := 0, locals := 0 }
set_option maxHeartbeats 4000000 in
set_option maxRecDepth 100000 in
theorem kO_way (l : Launch) (dC : Nat → ClassId) (dI : Nat → Nat → Nat) (a : Nat → Nat) (k : Nat → ClassId) (b : sk_Ob) (t : sk_Tr) (f : sk_Fi) (wt : sk_F) (x y : Int32) (hA : sk_AC b.1 b.2.1) (hx9 : sk_v b.1 x) : Met l yO_way wzO_way rzO_way (va_Pc [.ref (a 1), .int x, .int y] (sk_PX dC dI a k (b, t, f) wt)) (va_Ql (fun r (_ : Unit) => r = lN (sk_nb (sk_upto (fun y9 => decide (nI y9 = y)) (sk_abv b.2.1 x)))) (fun _ _ => True) (fun _ => False)) 0 0 (fun _ => False) := by
  refine Met.ofW (cc := cO_way) (maxL := 7) (ret := (some .long)) (by decide) rfl ?_
  intro p e s m args below meth c s₁ B hml hv
  obtain ⟨rfl, hP, hK, hN⟩ := hv
  have hx := B.exec
  have hb := B.bytes
  have hr := B.returns
  have hts : ∀ w ∈ sk_W, w.before ([.ref (a 1), .int x, .int y] : List Value).toArray s = true := fun w h => atoms_spec (ws := wzO_way) B.pre w (List.mem_cons_of_mem _ h)
  have hown : s.vm.findClass RO = some m.cls := findClass_of_methodNamed B.named
  have hlocks := B.notSynchronized
  have hS : va_S (fun _ => False) s.heap s.heap [] := va_S.rf
  have hP : va_P (dC, dI) vwCl (sk_wR a k (nI b.1) b.2.1 b.2.2.1 b.2.2.2.1 b.2.2.2.2 (nI t.1) t.2.1 t.2.2.1 t.2.2.2.1 t.2.2.2.2 (nI f.1) (nI (sk_there f)) (nI (f.1 % 100)) f.2.1 f.2.2.1 f.2.2.2.1 f.2.2.2.2.1 (fun i => lN (sk_nb (f.2.2.2.2.2.1 i))) (fun i => sk_bI (f.2.2.2.2.2.2 i)) wt) s.heap := hP
  have hl := lv_entry ([.ref (a 1), .int x, .int y]) (n := 7) (Nat.le_of_ble_eq_true rfl)
  rw [lg_entry_eq]
  generalize (lg_sl ([.ref (a 1), .int x, .int y]) ++ List.replicate (7 - (lg_sl ([.ref (a 1), .int x, .int y])).length) Slot.unset).toArray = ls at hl ⊢
  have hl : lv_has ls 7 [(0, .ref (a 1)), (1, .int x), (2, .int y)] := hl
  have h60 : b.1 ≤ 60 := hA.1
  refine lv_lconst (v := lN 0) hx hb dO_way_0 (by decide) ?_
  refine lv_lstore_n (lv' := [(3, .long (lN 0)), (0, .ref (a 1)), (1, .int x), (2, .int y)]) hx hb dO_way_1 rfl hl (by decide) rfl (fun ls hl => ?_)
  refine lv_iload_n hx hb dO_way_2 rfl (lv_at hl 2 rfl) ?_
  refine lv_istore (lv' := [(5, .int x), (3, .long (lN 0)), (0, .ref (a 1)), (1, .int x), (2, .int y)]) hx hb dO_way_3 hl (by decide) rfl (fun ls hl => ?_)
  refine lv_iconst (v := nI 0) hx hb dO_way_5 (by decide) ?_
  refine lv_istore (lv' := [(6, .int (nI 0)), (5, .int x), (3, .long (lN 0)), (0, .ref (a 1)), (1, .int x), (2, .int y)]) hx hb dO_way_6 hl (by decide) rfl (fun ls hl => ?_)
  have loop1 : ∀ (nn : Nat) (z : Int32) (st B : Nat), sk_v b.1 z → st + (sk_abv b.2.1 z).length ≤ 60 → B < 2 ^ 64 → B ||| sk_nb (sk_upto (fun y9 => decide (nI y9 = y)) (sk_abv b.2.1 z)) = sk_nb (sk_upto (fun y9 => decide (nI y9 = y)) (sk_abv b.2.1 x)) → (sk_abv b.2.1 z).length < nn → ∀ ls : Array Slot, lv_has ls 7 [(6, .int (nI st)), (5, .int z), (3, .long (lN B)), (0, .ref (a 1)), (1, .int x), (2, .int y)] → W p l e (headSpec wzO_way rzO_way).room s m ([.ref (a 1), .int x, .int y] : List Value).toArray below meth c s.heap [] 0 0 (MQ below (va_Ql (fun r (_ : Unit) => r = lN (sk_nb (sk_upto (fun y9 => decide (nI y9 = y)) (sk_abv b.2.1 x)))) (fun _ _ => True) (fun _ => False)) ([.ref (a 1), .int x, .int y] : List Value).toArray s 0 0 (fun _ => False)) (F0 m 8 ls []) := by
    intro nn
    induction nn with
    | zero => intro z st B hz hst hB he hmu; exact absurd hmu (Nat.not_lt_zero _)
    | succ nn ih1 =>
      intro z st B hz hst hB he hmu ls hl
      rcases hz with rfl | ⟨q, hq, rfl⟩
      · skip
        refine lv_iload hx hb dO_way_8 (lv_at hl 1 rfl) ?_
        refine lv_iconst (v := (-1)) hx hb dO_way_10 (by decide) ?_
        refine lv_icmp_eq (tgt := 51) hx hb dO_way_11 (by decide) (fun _ => ?_) (fun q => absurd (by decide) q)
        refine lv_lload_n hx hb dO_way_51 rfl (lv_at hl 2 rfl) ?_
        exact W.lret (v := lN B) hx hb hr (fun U9 ht hW => ⟨⟨lN B, (), rfl, by rw [← he, sk_abv_m1]; show _ = lN (B ||| 0); rw [Nat.or_zero], trivial⟩, hS.F ht⟩) hS.2.2 dO_way_52
      · skip
        have hs9 := sk_abv_s hA hq
        have hl9 : (sk_abv b.2.1 (nI q)).length = (sk_abv b.2.1 (b.2.1 q)).length + 1 := by rw [hs9]; rfl
        refine lv_iload hx hb dO_way_8 (lv_at hl 1 rfl) ?_
        refine lv_iconst (v := (-1)) hx hb dO_way_10 (by decide) ?_
        refine lv_icmp_eq (tgt := 51) hx hb dO_way_11 (by decide) (fun c11 => ?_) (fun c11 => ?_)
        · skip
          exact absurd c11 (sk_nm1 (by omega))
        · skip
          refine lv_iload hx hb dO_way_14 (lv_at hl 0 rfl) ?_
          refine lv_bipush (v := nI 60) hx hb dO_way_16 (by decide) ?_
          refine lv_icmp_ge (tgt := 51) hx hb dO_way_18 (by decide) (fun c18 => ?_) (fun c18 => ?_)
          · skip
            have n18 : 60 ≤ st := (nI_leI (a := 60) (b := st) (by omega) (by omega)).mp c18
            omega
          · skip
            have n18 : ¬ 60 ≤ st := fun z9 => c18 ((nI_leI (a := 60) (b := st) (by omega) (by omega)).mpr z9)
            refine lv_lload_n hx hb dO_way_21 rfl (lv_at hl 2 rfl) ?_
            refine lv_lconst (v := lN 1) hx hb dO_way_22 (by decide) ?_
            refine lv_iload hx hb dO_way_23 (lv_at hl 1 rfl) ?_
            refine lv_lshl (v := lN (2 ^ q)) hx hb dO_way_25 (sk_shl (by omega)) ?_
            refine lv_lor hx hb dO_way_26 ?_
            refine lv_topl (fun x26 e26 => ?_)
            obtain rfl : x26 = lN (B ||| 2 ^ q) := e26.trans (wb_or hB (sk_p64 (by omega)))
            refine lv_lstore_n (lv' := [(3, .long (lN (B ||| 2 ^ q))), (6, .int (nI st)), (5, .int (nI q)), (0, .ref (a 1)), (1, .int x), (2, .int y)]) hx hb dO_way_27 rfl hl (by decide) rfl (fun ls hl => ?_)
            refine lv_iload hx hb dO_way_28 (lv_at hl 2 rfl) ?_
            refine lv_iload_n hx hb dO_way_30 rfl (lv_at hl 5 rfl) ?_
            refine lv_icmp_ne (tgt := 36) hx hb dO_way_31 (by decide) (fun c31 => ?_) (fun c31 => ?_)
            · skip
              refine lv_aload_n hx hb dO_way_36 rfl (lv_at hl 3 rfl) ?_
              refine va_get (D := (dC, dI)) (ci := 1) (v := .ref (a 5)) (C := RO) (T := TO) (N := 5) hx hb hts inO hown hK hP 1 rfl rfl 0 (by decide) (hts _ wfO_9) (fun _ h9 => h9) rfl dO_way_37 ?_
              refine lv_iload hx hb dO_way_40 (lv_at hl 2 rfl) ?_
              refine va_iald hx hb hK hP 5 0 rfl rfl (vp_in_nI (show q < 60 by omega) (by decide)) dO_way_42 ?_
              refine lv_topi (fun x42 e42 => ?_)
              rw [nI_clamp (show q < 2 ^ 31 by omega)] at e42
              refine lv_istore (lv' := [(5, .int x42), (3, .long (lN (B ||| 2 ^ q))), (6, .int (nI st)), (0, .ref (a 1)), (1, .int x), (2, .int y)]) hx hb dO_way_43 hl (by decide) rfl (fun ls hl => ?_)
              refine lv_iinc (v := nI (st + 1)) (lv' := [(6, .int (nI (st + 1))), (5, .int x42), (3, .long (lN (B ||| 2 ^ q))), (0, .ref (a 1)), (1, .int x), (2, .int y)]) hx hb dO_way_45 hl (k := 2) rfl (sk_inc _) (by decide) rfl (fun ls hl => ?_)
              refine lv_goto (tgt := 8) hx hb dO_way_48 (by decide) ?_
              have hmx : (sk_abv b.2.1 x42).length < nn := by rw [e42]; omega
              exact ih1 x42 (st + 1) (B ||| 2 ^ q) (by rw [e42]; exact hA.2.1 q hq) (by rw [e42]; omega) (Nat.or_lt_two_pow hB (sk_p64 (by omega))) (by rw [e42, ← he, hs9, sk_upto, if_neg (by simp [c31])]; show _ = B ||| (sk_nb _ ||| 2 ^ q); rw [Nat.or_assoc, Nat.or_comm (2 ^ q)]) (by omega) ls (lv_sub hl [0, 1, 2, 3, 4, 5] rfl)
            · skip
              refine lv_lload_n hx hb dO_way_34 rfl (lv_at hl 0 rfl) ?_
              exact W.lret (v := lN (B ||| 2 ^ q)) hx hb hr (fun U9 ht hW => ⟨⟨lN (B ||| 2 ^ q), (), rfl, by rw [← he, hs9, sk_upto, if_pos (decide_eq_true c31)]; show _ = lN (B ||| (0 ||| 2 ^ q)); rw [Nat.zero_or], trivial⟩, hS.F ht⟩) hS.2.2 dO_way_35
  exact loop1 ((sk_abv b.2.1 x).length + 1) x 0 0 (hx9) (by have := sk_abv_len b.2.1 x; omega) (by decide) (Nat.zero_or _) (Nat.lt_succ_self _) ls (lv_sub hl [0, 1, 2, 3, 4, 5] rfl)
abbrev wzO_countOfShape : List Cond := .code yO_countOfShape cO_countOfShape 4 (some .int) :: sk_W
abbrev rzO_countOfShape : Room := { frames := 0, cells := 0, slots := 0, locals := 0 }
set_option maxHeartbeats 4000000 in
set_option maxRecDepth 100000 in
theorem kO_countOfShape (l : Launch) (dC : Nat → ClassId) (dI : Nat → Nat → Nat) (a : Nat → Nat) (k : Nat → ClassId) (b : sk_Ob) (t : sk_Tr) (f : sk_Fi) (wt : sk_F) (x : Int32) (h60 : b.1 ≤ 60) : Met l yO_countOfShape wzO_countOfShape rzO_countOfShape (va_Pc [.ref (a 1), .int x] (sk_PX dC dI a k (b, t, f) wt)) (va_Qi (fun r (_ : Unit) => r = nI (sk_cnt (fun y9 => decide (b.2.2.1 y9 = x)) b.1)) (fun _ _ => True) (fun _ => False)) 0 0 (fun _ => False) := by
  refine Met.ofW (cc := cO_countOfShape) (maxL := 4) (ret := (some .int)) (by decide) rfl ?_
  intro p e s m args below meth c s₁ B hml hv
  obtain ⟨rfl, hP, hK, hN⟩ := hv
  have hx := B.exec
  have hb := B.bytes
  have hr := B.returns
  have hts : ∀ w ∈ sk_W, w.before ([.ref (a 1), .int x] : List Value).toArray s = true := fun w h => atoms_spec (ws := wzO_countOfShape) B.pre w (List.mem_cons_of_mem _ h)
  have hown : s.vm.findClass RO = some m.cls := findClass_of_methodNamed B.named
  have hlocks := B.notSynchronized
  have hS : va_S (fun _ => False) s.heap s.heap [] := va_S.rf
  have hP : va_P (dC, dI) vwCl (sk_wR a k (nI b.1) b.2.1 b.2.2.1 b.2.2.2.1 b.2.2.2.2 (nI t.1) t.2.1 t.2.2.1 t.2.2.2.1 t.2.2.2.2 (nI f.1) (nI (sk_there f)) (nI (f.1 % 100)) f.2.1 f.2.2.1 f.2.2.2.1 f.2.2.2.2.1 (fun i => lN (sk_nb (f.2.2.2.2.2.1 i))) (fun i => sk_bI (f.2.2.2.2.2.2 i)) wt) s.heap := hP
  have hl := lv_entry ([.ref (a 1), .int x]) (n := 4) (Nat.le_of_ble_eq_true rfl)
  rw [lg_entry_eq]
  generalize (lg_sl ([.ref (a 1), .int x]) ++ List.replicate (4 - (lg_sl ([.ref (a 1), .int x])).length) Slot.unset).toArray = ls at hl ⊢
  have hl : lv_has ls 4 [(0, .ref (a 1)), (1, .int x)] := hl
  refine lv_iconst (v := nI 0) hx hb dO_countOfShape_0 (by decide) ?_
  refine lv_istore_n (lv' := [(2, .int (nI 0)), (0, .ref (a 1)), (1, .int x)]) hx hb dO_countOfShape_1 rfl hl (by decide) rfl (fun ls hl => ?_)
  refine lv_iconst (v := nI 0) hx hb dO_countOfShape_2 (by decide) ?_
  refine lv_istore_n (lv' := [(3, .int (nI 0)), (2, .int (nI 0)), (0, .ref (a 1)), (1, .int x)]) hx hb dO_countOfShape_3 rfl hl (by decide) rfl (fun ls hl => ?_)
  have loop1 : ∀ (nn : Nat) (cn i : Nat), i ≤ b.1 → cn = sk_cnt (fun y9 => decide (b.2.2.1 y9 = x)) i → b.1 - i < nn → ∀ ls : Array Slot, lv_has ls 4 [(3, .int (nI i)), (2, .int (nI cn)), (0, .ref (a 1)), (1, .int x)] → W p l e (headSpec wzO_countOfShape rzO_countOfShape).room s m ([.ref (a 1), .int x] : List Value).toArray below meth c s.heap [] 0 0 (MQ below (va_Qi (fun r (_ : Unit) => r = nI (sk_cnt (fun y9 => decide (b.2.2.1 y9 = x)) b.1)) (fun _ _ => True) (fun _ => False)) ([.ref (a 1), .int x] : List Value).toArray s 0 0 (fun _ => False)) (F0 m 4 ls []) := by
    intro nn
    induction nn with
    | zero => intro cn i hi hc hmu; exact absurd hmu (Nat.not_lt_zero _)
    | succ nn ih1 =>
      intro cn i hi hc hmu ls hl
      refine lv_iload_n hx hb dO_countOfShape_4 rfl (lv_at hl 0 rfl) ?_
      refine lv_aload_n hx hb dO_countOfShape_5 rfl (lv_at hl 2 rfl) ?_
      refine va_get (D := (dC, dI)) (ci := 1) (v := .int (nI b.1)) (C := RO) (T := TO) (N := 5) hx hb hts inO hown hK hP 1 rfl rfl 4 (by decide) (hts _ wfO_26) (fun _ h9 => h9) rfl dO_countOfShape_6 ?_
      refine lv_icmp_ge (tgt := 31) hx hb dO_countOfShape_9 (by decide) (fun c9 => ?_) (fun c9 => ?_)
      · skip
        have n9 : b.1 ≤ i := (nI_leI (a := b.1) (b := i) (by omega) (by omega)).mp c9
        refine lv_iload_n hx hb dO_countOfShape_31 rfl (lv_at hl 1 rfl) ?_
        exact W.iret (v := nI cn) hx hb hr (fun U9 ht hW => ⟨⟨nI cn, (), rfl, by rw [hc, show i = b.1 by omega], trivial⟩, hS.F ht⟩) hS.2.2 dO_countOfShape_32
      · skip
        have n9 : ¬ b.1 ≤ i := fun z9 => c9 ((nI_leI (a := b.1) (b := i) (by omega) (by omega)).mpr z9)
        refine lv_aload_n hx hb dO_countOfShape_12 rfl (lv_at hl 2 rfl) ?_
        refine va_get (D := (dC, dI)) (ci := 1) (v := .ref (a 6)) (C := RO) (T := TO) (N := 5) hx hb hts inO hown hK hP 1 rfl rfl 1 (by decide) (hts _ wfO_15) (fun _ h9 => h9) rfl dO_countOfShape_13 ?_
        refine lv_iload_n hx hb dO_countOfShape_16 rfl (lv_at hl 0 rfl) ?_
        refine va_iald hx hb hK hP 6 0 rfl rfl (vp_in_nI (show i < 60 by omega) (by decide)) dO_countOfShape_17 ?_
        refine lv_topi (fun x17 e17 => ?_)
        rw [nI_clamp (show i < 2 ^ 31 by omega)] at e17
        refine lv_iload_n hx hb dO_countOfShape_18 rfl (lv_at hl 3 rfl) ?_
        refine lv_icmp_ne (tgt := 25) hx hb dO_countOfShape_19 (by decide) (fun c19 => ?_) (fun c19 => ?_)
        · skip
          refine lv_iinc (v := nI (i + 1)) (lv' := [(3, .int (nI (i + 1))), (2, .int (nI cn)), (0, .ref (a 1)), (1, .int x)]) hx hb dO_countOfShape_25 hl (k := 0) rfl (sk_inc _) (by decide) rfl (fun ls hl => ?_)
          refine lv_goto (tgt := 4) hx hb dO_countOfShape_28 (by decide) ?_
          exact ih1 cn (i + 1) (by omega) (sk_cnt_n hc (by show decide (b.2.2.1 i = x) = false; rw [← e17]; exact decide_eq_false c19)) (by omega) ls (lv_sub hl [0, 1, 2, 3] rfl)
        · skip
          refine lv_iinc (v := nI (cn + 1)) (lv' := [(2, .int (nI (cn + 1))), (3, .int (nI i)), (0, .ref (a 1)), (1, .int x)]) hx hb dO_countOfShape_22 hl (k := 1) rfl (sk_inc _) (by decide) rfl (fun ls hl => ?_)
          refine lv_iinc (v := nI (i + 1)) (lv' := [(3, .int (nI (i + 1))), (2, .int (nI (cn + 1))), (0, .ref (a 1)), (1, .int x)]) hx hb dO_countOfShape_25 hl (k := 1) rfl (sk_inc _) (by decide) rfl (fun ls hl => ?_)
          refine lv_goto (tgt := 4) hx hb dO_countOfShape_28 (by decide) ?_
          exact ih1 (cn + 1) (i + 1) (by omega) (sk_cnt_s hc (by show decide (b.2.2.1 i = x) = true; rw [← e17]; exact decide_eq_true c19)) (by omega) ls (lv_sub hl [0, 1, 2, 3] rfl)
  exact loop1 (b.1 - 0 + 1) 0 0 (Nat.zero_le _) (rfl) (Nat.lt_succ_self _) ls (lv_sub hl [0, 1, 2, 3] rfl)
abbrev wzO_countBelow : List Cond := .code yO_countBelow cO_countBelow 4 (some .int) :: sk_W
abbrev rzO_countBelow : Room := { frames := 1, cells := 0, slots := 0, locals := 24 }
set_option maxHeartbeats 4000000 in
set_option maxRecDepth 100000 in
theorem kO_countBelow (l : Launch) (dC : Nat → ClassId) (dI : Nat → Nat → Nat) (a : Nat → Nat) (k : Nat → ClassId) (b : sk_Ob) (t : sk_Tr) (f : sk_Fi) (wt : sk_F) (o : Nat) (hA : sk_AC b.1 b.2.1) (ho : o < b.1) : Met l yO_countBelow wzO_countBelow rzO_countBelow (va_Pc [.ref (a 1), .int (nI o)] (sk_PX dC dI a k (b, t, f) wt)) (va_Qi (fun r (_ : Unit) => r = nI (sk_cnt (fun y9 => decide (o ∈ sk_abv b.2.1 (b.2.1 y9))) b.1)) (fun _ _ => True) (fun _ => False)) 0 0 (fun _ => False) := by
  refine Met.ofW (cc := cO_countBelow) (maxL := 4) (ret := (some .int)) (by decide) rfl ?_
  intro p e s m args below meth c s₁ B hml hv
  obtain ⟨rfl, hP, hK, hN⟩ := hv
  have hx := B.exec
  have hb := B.bytes
  have hr := B.returns
  have hts : ∀ w ∈ sk_W, w.before ([.ref (a 1), .int (nI o)] : List Value).toArray s = true := fun w h => atoms_spec (ws := wzO_countBelow) B.pre w (List.mem_cons_of_mem _ h)
  have hown : s.vm.findClass RO = some m.cls := findClass_of_methodNamed B.named
  have hlocks := B.notSynchronized
  have hS : va_S (fun _ => False) s.heap s.heap [] := va_S.rf
  have hP : va_P (dC, dI) vwCl (sk_wR a k (nI b.1) b.2.1 b.2.2.1 b.2.2.2.1 b.2.2.2.2 (nI t.1) t.2.1 t.2.2.1 t.2.2.2.1 t.2.2.2.2 (nI f.1) (nI (sk_there f)) (nI (f.1 % 100)) f.2.1 f.2.2.1 f.2.2.2.1 f.2.2.2.2.1 (fun i => lN (sk_nb (f.2.2.2.2.2.1 i))) (fun i => sk_bI (f.2.2.2.2.2.2 i)) wt) s.heap := hP
  have hl := lv_entry ([.ref (a 1), .int (nI o)]) (n := 4) (Nat.le_of_ble_eq_true rfl)
  rw [lg_entry_eq]
  generalize (lg_sl ([.ref (a 1), .int (nI o)]) ++ List.replicate (4 - (lg_sl ([.ref (a 1), .int (nI o)])).length) Slot.unset).toArray = ls at hl ⊢
  have hl : lv_has ls 4 [(0, .ref (a 1)), (1, .int (nI o))] := hl
  have h60 : b.1 ≤ 60 := hA.1
  refine lv_iconst (v := nI 0) hx hb dO_countBelow_0 (by decide) ?_
  refine lv_istore_n (lv' := [(2, .int (nI 0)), (0, .ref (a 1)), (1, .int (nI o))]) hx hb dO_countBelow_1 rfl hl (by decide) rfl (fun ls hl => ?_)
  refine lv_iconst (v := nI 0) hx hb dO_countBelow_2 (by decide) ?_
  refine lv_istore_n (lv' := [(3, .int (nI 0)), (2, .int (nI 0)), (0, .ref (a 1)), (1, .int (nI o))]) hx hb dO_countBelow_3 rfl hl (by decide) rfl (fun ls hl => ?_)
  have loop1 : ∀ (nn : Nat) (cn i : Nat), i ≤ b.1 → cn = sk_cnt (fun y9 => decide (o ∈ sk_abv b.2.1 (b.2.1 y9))) i → b.1 - i < nn → ∀ (H : Heap) (locs : List Loc), va_P (dC, dI) vwCl (sk_wR a k (nI b.1) b.2.1 b.2.2.1 b.2.2.2.1 b.2.2.2.2 (nI t.1) t.2.1 t.2.2.1 t.2.2.2.1 t.2.2.2.2 (nI f.1) (nI (sk_there f)) (nI (f.1 % 100)) f.2.1 f.2.2.1 f.2.2.2.1 f.2.2.2.2.1 (fun i => lN (sk_nb (f.2.2.2.2.2.1 i))) (fun i => sk_bI (f.2.2.2.2.2.2 i)) wt) H → va_S (fun _ => False) s.heap H locs → ∀ ls : Array Slot, lv_has ls 4 [(3, .int (nI i)), (2, .int (nI cn)), (0, .ref (a 1)), (1, .int (nI o))] → W p l e (headSpec wzO_countBelow rzO_countBelow).room s m ([.ref (a 1), .int (nI o)] : List Value).toArray below meth c H locs 0 0 (MQ below (va_Qi (fun r (_ : Unit) => r = nI (sk_cnt (fun y9 => decide (o ∈ sk_abv b.2.1 (b.2.1 y9))) b.1)) (fun _ _ => True) (fun _ => False)) ([.ref (a 1), .int (nI o)] : List Value).toArray s 0 0 (fun _ => False)) (F0 m 4 ls []) := by
    intro nn
    induction nn with
    | zero => intro cn i hi hc hmu; exact absurd hmu (Nat.not_lt_zero _)
    | succ nn ih1 =>
      intro cn i hi hc hmu H locs hP hS ls hl
      refine lv_iload_n hx hb dO_countBelow_4 rfl (lv_at hl 0 rfl) ?_
      refine lv_aload_n hx hb dO_countBelow_5 rfl (lv_at hl 2 rfl) ?_
      refine va_get (D := (dC, dI)) (ci := 1) (v := .int (nI b.1)) (C := RO) (T := TO) (N := 5) hx hb hts inO hown hK hP 1 rfl rfl 4 (by decide) (hts _ wfO_26) (fun _ h9 => h9) rfl dO_countBelow_6 ?_
      refine lv_icmp_ge (tgt := 35) hx hb dO_countBelow_9 (by decide) (fun c9 => ?_) (fun c9 => ?_)
      · skip
        have n9 : b.1 ≤ i := (nI_leI (a := b.1) (b := i) (by omega) (by omega)).mp c9
        refine lv_iload_n hx hb dO_countBelow_35 rfl (lv_at hl 1 rfl) ?_
        exact W.iret (v := nI cn) hx hb hr (fun U9 ht hW => ⟨⟨nI cn, (), rfl, by rw [hc, show i = b.1 by omega], trivial⟩, hS.F ht⟩) hS.2.2 dO_countBelow_36
      · skip
        have n9 : ¬ b.1 ≤ i := fun z9 => c9 ((nI_leI (a := b.1) (b := i) (by omega) (by omega)).mpr z9)
        refine lv_aload_n hx hb dO_countBelow_12 rfl (lv_at hl 2 rfl) ?_
        refine lv_aload_n hx hb dO_countBelow_13 rfl (lv_at hl 2 rfl) ?_
        refine va_get (D := (dC, dI)) (ci := 1) (v := .ref (a 5)) (C := RO) (T := TO) (N := 5) hx hb hts inO hown hK hP 1 rfl rfl 0 (by decide) (hts _ wfO_9) (fun _ h9 => h9) rfl dO_countBelow_14 ?_
        refine lv_iload_n hx hb dO_countBelow_17 rfl (lv_at hl 0 rfl) ?_
        refine va_iald hx hb hK hP 5 0 rfl rfl (vp_in_nI (show i < 60 by omega) (by decide)) dO_countBelow_18 ?_
        refine lv_topi (fun x18 e18 => ?_)
        rw [nI_clamp (show i < 2 ^ 31 by omega)] at e18
        refine lv_iload_n hx hb dO_countBelow_19 rfl (lv_at hl 3 rfl) ?_
        refine va_calli (va_runV (As := [.int x18, .int (nI o)]) (rest := []) ⟨hx, hb, hml, hown, hts⟩ (kO_leadsTo l dC dI a k b t f wt x18 o hA (by rw [e18]; exact hA.2.1 i (by omega)) ho) (cwV 2 hts (sk_gV wmO_44 wiO_leadsTo wsO_leadsTo wnO wcO_leadsTo) rfl rfl rfl (by decide +kernel) ⟨Nat.le_of_ble_eq_true rfl, Nat.le_of_ble_eq_true rfl⟩) ⟨sk_blind _, va_recv hK hP (ci := 1) (q0 := 1) rfl rfl, fun U hU hW => ⟨rfl, sk_at (S := (b, t, f)) (wt := wt) hP hK hN hU hW⟩⟩ rfl rfl hl.1 rfl (lv_room (Nat.le_of_ble_eq_true rfl)) dO_countBelow_20 ⟨Nat.le_of_ble_eq_true rfl, Nat.le_of_ble_eq_true rfl⟩) hS (fun _ _ h => h.elim) (fun _ h => h.elim) (fun r20 u20 U9 H locs ht hvm w20 hB hz hk hS => ?_)
        have hP : va_P (dC, dI) vwCl (sk_wR a k (nI b.1) b.2.1 b.2.2.1 b.2.2.2.1 b.2.2.2.2 (nI t.1) t.2.1 t.2.2.1 t.2.2.2.1 t.2.2.2.2 (nI f.1) (nI (sk_there f)) (nI (f.1 % 100)) f.2.1 f.2.2.1 f.2.2.2.1 f.2.2.2.2.1 (fun i => lN (sk_nb (f.2.2.2.2.2.1 i))) (fun i => sk_bI (f.2.2.2.2.2.2 i)) wt) H := hP.kept (fun j q hq => hk q.1 ((hP j q hq).lt) (fun h => h))
        clear hk hB ht
        rcases sk_bI_or (decide (o ∈ sk_abv b.2.1 x18)) with ⟨h20, hv⟩ | ⟨h20, hv⟩
        · skip
          obtain rfl : r20 = nI 1 := w20.trans hv
          refine lv_if_eq (tgt := 29) hx hb dO_countBelow_23 (by decide) (fun q => absurd q (by decide)) (fun _ => ?_)
          refine lv_iinc (v := nI (cn + 1)) (lv' := [(2, .int (nI (cn + 1))), (3, .int (nI i)), (0, .ref (a 1)), (1, .int (nI o))]) hx hb dO_countBelow_26 hl (k := 1) rfl (sk_inc _) (by decide) rfl (fun ls hl => ?_)
          refine lv_iinc (v := nI (i + 1)) (lv' := [(3, .int (nI (i + 1))), (2, .int (nI (cn + 1))), (0, .ref (a 1)), (1, .int (nI o))]) hx hb dO_countBelow_29 hl (k := 1) rfl (sk_inc _) (by decide) rfl (fun ls hl => ?_)
          refine lv_goto (tgt := 4) hx hb dO_countBelow_32 (by decide) ?_
          exact ih1 (cn + 1) (i + 1) (by omega) (sk_cnt_s hc (by show decide (o ∈ sk_abv b.2.1 (b.2.1 i)) = true; rw [← e18]; exact h20)) (by omega) _ _ hP hS ls (lv_sub hl [0, 1, 2, 3] rfl)
        · skip
          obtain rfl : r20 = nI 0 := w20.trans hv
          refine lv_if_eq (tgt := 29) hx hb dO_countBelow_23 (by decide) (fun _ => ?_) (fun q => absurd (by decide) q)
          refine lv_iinc (v := nI (i + 1)) (lv' := [(3, .int (nI (i + 1))), (2, .int (nI cn)), (0, .ref (a 1)), (1, .int (nI o))]) hx hb dO_countBelow_29 hl (k := 0) rfl (sk_inc _) (by decide) rfl (fun ls hl => ?_)
          refine lv_goto (tgt := 4) hx hb dO_countBelow_32 (by decide) ?_
          exact ih1 cn (i + 1) (by omega) (sk_cnt_n hc (by show decide (o ∈ sk_abv b.2.1 (b.2.1 i)) = false; rw [← e18]; exact h20)) (by omega) _ _ hP hS ls (lv_sub hl [0, 1, 2, 3] rfl)
  exact loop1 (b.1 - 0 + 1) 0 0 (Nat.zero_le _) (rfl) (Nat.lt_succ_self _) _ _ hP hS ls (lv_sub hl [0, 1, 2, 3] rfl)
abbrev wzF_whereOf : List Cond := .code yF_whereOf cF_whereOf 2 (some .int) :: sk_W
abbrev rzF_whereOf : Room := { frames := 0, cells := 0, slots := 0, locals := 0 }
set_option maxHeartbeats 4000000 in
set_option maxRecDepth 100000 in
theorem kF_whereOf (l : Launch) (dC : Nat → ClassId) (dI : Nat → Nat → Nat) (a : Nat → Nat) (k : Nat → ClassId) (b : sk_Ob) (t : sk_Tr) (f : sk_Fi) (wt : sk_F) (o : Nat) (ho : o < 100) : Met l yF_whereOf wzF_whereOf rzF_whereOf (va_Pc [.ref (a 3), .int (nI o)] (sk_PX dC dI a k (b, t, f) wt)) (va_Qi (fun r (_ : Unit) => r = sk_where f o) (fun _ _ => True) (fun _ => False)) 0 0 (fun _ => False) := by
  refine Met.ofW (cc := cF_whereOf) (maxL := 2) (ret := (some .int)) (by decide) rfl ?_
  intro p e s m args below meth c s₁ B hml hv
  obtain ⟨rfl, hP, hK, hN⟩ := hv
  have hx := B.exec
  have hb := B.bytes
  have hr := B.returns
  have hts : ∀ w ∈ sk_W, w.before ([.ref (a 3), .int (nI o)] : List Value).toArray s = true := fun w h => atoms_spec (ws := wzF_whereOf) B.pre w (List.mem_cons_of_mem _ h)
  have hown : s.vm.findClass RF = some m.cls := findClass_of_methodNamed B.named
  have hlocks := B.notSynchronized
  have hS : va_S (fun _ => False) s.heap s.heap [] := va_S.rf
  have hP : va_P (dC, dI) vwCl (sk_wR a k (nI b.1) b.2.1 b.2.2.1 b.2.2.2.1 b.2.2.2.2 (nI t.1) t.2.1 t.2.2.1 t.2.2.2.1 t.2.2.2.2 (nI f.1) (nI (sk_there f)) (nI (f.1 % 100)) f.2.1 f.2.2.1 f.2.2.2.1 f.2.2.2.2.1 (fun i => lN (sk_nb (f.2.2.2.2.2.1 i))) (fun i => sk_bI (f.2.2.2.2.2.2 i)) wt) s.heap := hP
  have hl := lv_entry ([.ref (a 3), .int (nI o)]) (n := 2) (Nat.le_of_ble_eq_true rfl)
  rw [lg_entry_eq]
  generalize (lg_sl ([.ref (a 3), .int (nI o)]) ++ List.replicate (2 - (lg_sl ([.ref (a 3), .int (nI o)])).length) Slot.unset).toArray = ls at hl ⊢
  have hl : lv_has ls 2 [(0, .ref (a 3)), (1, .int (nI o))] := hl
  refine lv_aload_n hx hb dF_whereOf_0 rfl (lv_at hl 0 rfl) ?_
  refine va_get (D := (dC, dI)) (ci := 0) (v := .ref (a 16)) (C := RF) (T := TF) (N := 9) hx hb hts inF hown hK hP 3 rfl rfl 3 (by decide) (hts _ wfF_21) (fun _ h9 => h9) rfl dF_whereOf_1 ?_
  refine lv_iload_n hx hb dF_whereOf_4 rfl (lv_at hl 1 rfl) ?_
  refine va_iald hx hb hK hP 16 0 rfl rfl (vp_in_nI (show o < 100 by omega) (by decide)) dF_whereOf_5 ?_
  refine lv_topi (fun x5 e5 => ?_)
  rw [nI_clamp (show o < 2 ^ 31 by omega)] at e5
  refine lv_iconst (v := (-1)) hx hb dF_whereOf_6 (by decide) ?_
  refine lv_icmp_ne (tgt := 12) hx hb dF_whereOf_7 (by decide) (fun c7 => ?_) (fun c7 => ?_)
  · skip
    refine lv_aload_n hx hb dF_whereOf_12 rfl (lv_at hl 0 rfl) ?_
    refine va_get (D := (dC, dI)) (ci := 0) (v := .ref (a 15)) (C := RF) (T := TF) (N := 9) hx hb hts inF hown hK hP 3 rfl rfl 2 (by decide) (hts _ wfF_18) (fun _ h9 => h9) rfl dF_whereOf_13 ?_
    refine lv_iload_n hx hb dF_whereOf_16 rfl (lv_at hl 1 rfl) ?_
    refine va_iald hx hb hK hP 15 0 rfl rfl (vp_in_nI (show o < 100 by omega) (by decide)) dF_whereOf_17 ?_
    refine lv_topi (fun x17 e17 => ?_)
    rw [nI_clamp (show o < 2 ^ 31 by omega)] at e17
    refine lv_iconst (v := (-1)) hx hb dF_whereOf_18 (by decide) ?_
    refine lv_icmp_ne (tgt := 26) hx hb dF_whereOf_19 (by decide) (fun c19 => ?_) (fun c19 => ?_)
    · skip
      refine lv_iconst (v := nI 2) hx hb dF_whereOf_26 (by decide) ?_
      exact W.iret (v := nI 2) hx hb hr (fun U9 ht hW => ⟨⟨nI 2, (), rfl, by unfold sk_where; rw [if_neg (fun q => c7 (e5.trans q)), if_neg (fun q => c19 (e17.trans q))]; rfl, trivial⟩, hS.F ht⟩) hS.2.2 dF_whereOf_27
    · skip
      refine lv_iconst (v := nI 1) hx hb dF_whereOf_22 (by decide) ?_
      refine lv_goto (tgt := 27) hx hb dF_whereOf_23 (by decide) ?_
      exact W.iret (v := nI 1) hx hb hr (fun U9 ht hW => ⟨⟨nI 1, (), rfl, by unfold sk_where; rw [if_neg (fun q => c7 (e5.trans q)), if_pos (e17.symm.trans c19)]; rfl, trivial⟩, hS.F ht⟩) hS.2.2 dF_whereOf_27
  · skip
    refine lv_iconst (v := nI 0) hx hb dF_whereOf_10 (by decide) ?_
    exact W.iret (v := nI 0) hx hb hr (fun U9 ht hW => ⟨⟨nI 0, (), rfl, by unfold sk_where; rw [if_pos (e5.symm.trans c7)]; rfl, trivial⟩, hS.F ht⟩) hS.2.2 dF_whereOf_11
abbrev wzF_countHolding : List Cond := .code yF_countHolding cF_countHolding 3 (some .int) :: sk_W
abbrev rzF_countHolding : Room := { frames := 0, cells := 0, slots := 0, locals := 0 }
set_option maxHeartbeats 4000000 in
set_option maxRecDepth 100000 in
theorem kF_countHolding (l : Launch) (dC : Nat → ClassId) (dI : Nat → Nat → Nat) (a : Nat → Nat) (k : Nat → ClassId) (b : sk_Ob) (t : sk_Tr) (f : sk_Fi) (wt : sk_F)   : Met l yF_countHolding wzF_countHolding rzF_countHolding (va_Pc [.ref (a 3)] (sk_PX dC dI a k (b, t, f) wt)) (va_Qi (fun r (_ : Unit) => r = nI (sk_cnt f.2.2.2.2.2.2 (sk_there f))) (fun _ _ => True) (fun _ => False)) 0 0 (fun _ => False) := by
  refine Met.ofW (cc := cF_countHolding) (maxL := 3) (ret := (some .int)) (by decide) rfl ?_
  intro p e s m args below meth c s₁ B hml hv
  obtain ⟨rfl, hP, hK, hN⟩ := hv
  have hx := B.exec
  have hb := B.bytes
  have hr := B.returns
  have hts : ∀ w ∈ sk_W, w.before ([.ref (a 3)] : List Value).toArray s = true := fun w h => atoms_spec (ws := wzF_countHolding) B.pre w (List.mem_cons_of_mem _ h)
  have hown : s.vm.findClass RF = some m.cls := findClass_of_methodNamed B.named
  have hlocks := B.notSynchronized
  have hS : va_S (fun _ => False) s.heap s.heap [] := va_S.rf
  have hP : va_P (dC, dI) vwCl (sk_wR a k (nI b.1) b.2.1 b.2.2.1 b.2.2.2.1 b.2.2.2.2 (nI t.1) t.2.1 t.2.2.1 t.2.2.2.1 t.2.2.2.2 (nI f.1) (nI (sk_there f)) (nI (f.1 % 100)) f.2.1 f.2.2.1 f.2.2.2.1 f.2.2.2.2.1 (fun i => lN (sk_nb (f.2.2.2.2.2.1 i))) (fun i => sk_bI (f.2.2.2.2.2.2 i)) wt) s.heap := hP
  have hl := lv_entry ([.ref (a 3)]) (n := 3) (Nat.le_of_ble_eq_true rfl)
  rw [lg_entry_eq]
  generalize (lg_sl ([.ref (a 3)]) ++ List.replicate (3 - (lg_sl ([.ref (a 3)])).length) Slot.unset).toArray = ls at hl ⊢
  have hl : lv_has ls 3 [(0, .ref (a 3))] := hl
  have h100 : sk_there f ≤ 100 := Nat.min_le_right _ _
  refine lv_iconst (v := nI 0) hx hb dF_countHolding_0 (by decide) ?_
  refine lv_istore_n (lv' := [(1, .int (nI 0)), (0, .ref (a 3))]) hx hb dF_countHolding_1 rfl hl (by decide) rfl (fun ls hl => ?_)
  refine lv_iconst (v := nI 0) hx hb dF_countHolding_2 (by decide) ?_
  refine lv_istore_n (lv' := [(2, .int (nI 0)), (1, .int (nI 0)), (0, .ref (a 3))]) hx hb dF_countHolding_3 rfl hl (by decide) rfl (fun ls hl => ?_)
  have loop1 : ∀ (nn : Nat) (cn i : Nat), i ≤ sk_there f → cn = sk_cnt f.2.2.2.2.2.2 i → sk_there f - i < nn → ∀ ls : Array Slot, lv_has ls 3 [(2, .int (nI i)), (1, .int (nI cn)), (0, .ref (a 3))] → W p l e (headSpec wzF_countHolding rzF_countHolding).room s m ([.ref (a 3)] : List Value).toArray below meth c s.heap [] 0 0 (MQ below (va_Qi (fun r (_ : Unit) => r = nI (sk_cnt f.2.2.2.2.2.2 (sk_there f))) (fun _ _ => True) (fun _ => False)) ([.ref (a 3)] : List Value).toArray s 0 0 (fun _ => False)) (F0 m 4 ls []) := by
    intro nn
    induction nn with
    | zero => intro cn i hi hc hmu; exact absurd hmu (Nat.not_lt_zero _)
    | succ nn ih1 =>
      intro cn i hi hc hmu ls hl
      refine lv_iload_n hx hb dF_countHolding_4 rfl (lv_at hl 0 rfl) ?_
      refine lv_aload_n hx hb dF_countHolding_5 rfl (lv_at hl 2 rfl) ?_
      refine va_get (D := (dC, dI)) (ci := 0) (v := .int (nI (sk_there f))) (C := RF) (T := TF) (N := 9) hx hb hts inF hown hK hP 3 rfl rfl 7 (by decide) (hts _ wfF_36) (fun _ h9 => h9) rfl dF_countHolding_6 ?_
      refine lv_icmp_ge (tgt := 30) hx hb dF_countHolding_9 (by decide) (fun c9 => ?_) (fun c9 => ?_)
      · skip
        have n9 : (sk_there f) ≤ i := (nI_leI (a := (sk_there f)) (b := i) (by omega) (by omega)).mp c9
        refine lv_iload_n hx hb dF_countHolding_30 rfl (lv_at hl 1 rfl) ?_
        exact W.iret (v := nI cn) hx hb hr (fun U9 ht hW => ⟨⟨nI cn, (), rfl, by rw [hc, show i = sk_there f by omega], trivial⟩, hS.F ht⟩) hS.2.2 dF_countHolding_31
      · skip
        have n9 : ¬ (sk_there f) ≤ i := fun z9 => c9 ((nI_leI (a := (sk_there f)) (b := i) (by omega) (by omega)).mpr z9)
        refine lv_aload_n hx hb dF_countHolding_12 rfl (lv_at hl 2 rfl) ?_
        refine va_get (D := (dC, dI)) (ci := 0) (v := .ref (a 18)) (C := RF) (T := TF) (N := 9) hx hb hts inF hown hK hP 3 rfl rfl 5 (by decide) (hts _ wfF_28) (fun _ h9 => h9) rfl dF_countHolding_13 ?_
        refine lv_iload_n hx hb dF_countHolding_16 rfl (lv_at hl 0 rfl) ?_
        refine va_zald hx hb hK hP 18 1 rfl rfl (vp_in_nI (show i < 100 by omega) (by decide)) dF_countHolding_17 ?_
        refine lv_topi (fun x17 e17 => ?_)
        rw [nI_clamp (show i < 2 ^ 31 by omega)] at e17
        refine lv_if_eq (tgt := 24) hx hb dF_countHolding_18 (by decide) (fun c18 => ?_) (fun c18 => ?_)
        · skip
          refine lv_iinc (v := nI (i + 1)) (lv' := [(2, .int (nI (i + 1))), (1, .int (nI cn)), (0, .ref (a 3))]) hx hb dF_countHolding_24 hl (k := 0) rfl (sk_inc _) (by decide) rfl (fun ls hl => ?_)
          refine lv_goto (tgt := 4) hx hb dF_countHolding_27 (by decide) ?_
          exact ih1 cn (i + 1) (by omega) (sk_cnt_n hc (by cases hq : f.2.2.2.2.2.2 i with | false => rfl | true => rw [hq] at e17; rw [e17] at c18; exact absurd c18 (by decide))) (by omega) ls (lv_sub hl [0, 1, 2] rfl)
        · skip
          refine lv_iinc (v := nI (cn + 1)) (lv' := [(1, .int (nI (cn + 1))), (2, .int (nI i)), (0, .ref (a 3))]) hx hb dF_countHolding_21 hl (k := 1) rfl (sk_inc _) (by decide) rfl (fun ls hl => ?_)
          refine lv_iinc (v := nI (i + 1)) (lv' := [(2, .int (nI (i + 1))), (1, .int (nI (cn + 1))), (0, .ref (a 3))]) hx hb dF_countHolding_24 hl (k := 1) rfl (sk_inc _) (by decide) rfl (fun ls hl => ?_)
          refine lv_goto (tgt := 4) hx hb dF_countHolding_27 (by decide) ?_
          exact ih1 (cn + 1) (i + 1) (by omega) (sk_cnt_s hc (by cases hq : f.2.2.2.2.2.2 i with | true => rfl | false => rw [hq] at e17; exact absurd (e17.trans (by decide)) c18)) (by omega) ls (lv_sub hl [0, 1, 2] rfl)
  exact loop1 (sk_there f - 0 + 1) 0 0 (Nat.zero_le _) (rfl) (Nat.lt_succ_self _) ls (lv_sub hl [0, 1, 2] rfl)
