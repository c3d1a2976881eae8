abbrev wzT_make : List Cond := .code yT_make cT_make 6 (some .int) :: sk_W
abbrev rzT_make : Room := { frames := 0, cells := 0, slots := 0, locals := 0 }
set_option maxHeartbeats 4000000 in
set_option maxRecDepth 100000 in
theorem kT_make (l : Launch) (dC : Nat → ClassId) (dI : Nat → Nat → Nat) (a : Nat → Nat) (k : Nat → ClassId) (b : sk_Ob) (t : sk_Tr) (f : sk_Fi) (wt : sk_F) (A : Nat → Prop) (x1 x2 x3 x4 : Int32) (hn : t.1 < 200) : Met l yT_make wzT_make rzT_make (va_Pc [.ref (a 2), .int x1, .int x2, .int x3, .int x4] (fun U => sk_PX dC dI a k (b, t, f) wt U ∧ va_D A (sk_wX a k (b, t, f) wt))) (va_Qi (fun r (u : sk_S × sk_F) => r = nI t.1 ∧ u = ((b, sk_make t x1 x2 x3 x4, f), wt)) (fun u U => va_P (dC, dI) vwCl (sk_wX a k u.1 u.2) U.heap ∧ va_D A (sk_wX a k u.1 u.2)) A) 0 0 A := by
  refine Met.ofW (cc := cT_make) (maxL := 6) (ret := (some .int)) (by decide) rfl ?_
  intro p e s m args below meth c s₁ B hml hv
  obtain ⟨rfl, ⟨hP, hK, hN⟩, hD⟩ := hv
  have hx := B.exec
  have hb := B.bytes
  have hr := B.returns
  have hts : ∀ w ∈ sk_W, w.before ([.ref (a 2), .int x1, .int x2, .int x3, .int x4] : List Value).toArray s = true := fun w h => atoms_spec (ws := wzT_make) B.pre w (List.mem_cons_of_mem _ h)
  have hown : s.vm.findClass RT = some m.cls := findClass_of_methodNamed B.named
  have hlocks := B.notSynchronized
  have hS : va_S A s.heap s.heap [] := va_S.rf
  have hP : va_P (dC, dI) vwCl (sk_wR a k (nI b.1) b.2.1 b.2.2.1 b.2.2.2.1 b.2.2.2.2 (nI t.1) t.2.1 t.2.2.1 t.2.2.2.1 t.2.2.2.2 (nI f.1) (nI (sk_there f)) (nI (f.1 % 100)) f.2.1 f.2.2.1 f.2.2.2.1 f.2.2.2.2.1 (fun i => lN (sk_nb (f.2.2.2.2.2.1 i))) (fun i => sk_bI (f.2.2.2.2.2.2 i)) wt) s.heap := hP
  have hD : va_D A (sk_wR a k (nI b.1) b.2.1 b.2.2.1 b.2.2.2.1 b.2.2.2.2 (nI t.1) t.2.1 t.2.2.1 t.2.2.2.1 t.2.2.2.2 (nI f.1) (nI (sk_there f)) (nI (f.1 % 100)) f.2.1 f.2.2.1 f.2.2.2.1 f.2.2.2.2.1 (fun i => lN (sk_nb (f.2.2.2.2.2.1 i))) (fun i => sk_bI (f.2.2.2.2.2.2 i)) wt) := hD
  have hl := lv_entry ([.ref (a 2), .int x1, .int x2, .int x3, .int x4]) (n := 6) (Nat.le_of_ble_eq_true rfl)
  rw [lg_entry_eq]
  generalize (lg_sl ([.ref (a 2), .int x1, .int x2, .int x3, .int x4]) ++ List.replicate (6 - (lg_sl ([.ref (a 2), .int x1, .int x2, .int x3, .int x4])).length) Slot.unset).toArray = ls at hl ⊢
  have hl : lv_has ls 6 [(0, .ref (a 2)), (1, .int x1), (2, .int x2), (3, .int x3), (4, .int x4)] := hl
  refine lv_aload_n hx hb dT_make_0 rfl (lv_at hl 0 rfl) ?_
  refine va_get (D := (dC, dI)) (ci := 2) (v := .int (nI t.1)) (C := RT) (T := TT) (N := 5) hx hb hts inT hown hK hP 2 rfl rfl 4 (by decide) (hts _ wfT_24) (fun _ h9 => h9) rfl dT_make_1 ?_
  refine lv_istore (lv' := [(5, .int (nI t.1)), (0, .ref (a 2)), (1, .int x1), (2, .int x2), (3, .int x3), (4, .int x4)]) hx hb dT_make_4 hl (by decide) rfl (fun ls hl => ?_)
  refine lv_aload_n hx hb dT_make_6 rfl (lv_at hl 1 rfl) ?_
  refine va_get (D := (dC, dI)) (ci := 2) (v := .ref (a 9)) (C := RT) (T := TT) (N := 5) hx hb hts inT hown hK hP 2 rfl rfl 0 (by decide) (hts _ wfT_9) (fun _ h9 => h9) rfl dT_make_7 ?_
  refine lv_iload hx hb dT_make_10 (lv_at hl 0 rfl) ?_
  refine lv_iload_n hx hb dT_make_12 rfl (lv_at hl 2 rfl) ?_
  refine va_iast hx hb hK hP hD hS 9 0 rfl rfl (vp_in_nI (show t.1 < 200 by omega) (by decide)) dT_make_13 (fun H locs hP hD hS => ?_)
  rw [nI_clamp (show t.1 < 2 ^ 31 by omega)] at hP hD
  have hP : va_P (dC, dI) vwCl (sk_wR a k (nI b.1) b.2.1 b.2.2.1 b.2.2.2.1 b.2.2.2.2 (nI t.1) (upd t.2.1 t.1 x1) t.2.2.1 t.2.2.2.1 t.2.2.2.2 (nI f.1) (nI (sk_there f)) (nI (f.1 % 100)) f.2.1 f.2.2.1 f.2.2.2.1 f.2.2.2.2.1 (fun i => lN (sk_nb (f.2.2.2.2.2.1 i))) (fun i => sk_bI (f.2.2.2.2.2.2 i)) wt) H := hP
  have hD : va_D A (sk_wR a k (nI b.1) b.2.1 b.2.2.1 b.2.2.2.1 b.2.2.2.2 (nI t.1) (upd t.2.1 t.1 x1) t.2.2.1 t.2.2.2.1 t.2.2.2.2 (nI f.1) (nI (sk_there f)) (nI (f.1 % 100)) f.2.1 f.2.2.1 f.2.2.2.1 f.2.2.2.2.1 (fun i => lN (sk_nb (f.2.2.2.2.2.1 i))) (fun i => sk_bI (f.2.2.2.2.2.2 i)) wt) := hD
  refine lv_aload_n hx hb dT_make_14 rfl (lv_at hl 1 rfl) ?_
  refine va_get (D := (dC, dI)) (ci := 2) (v := .ref (a 10)) (C := RT) (T := TT) (N := 5) hx hb hts inT hown hK hP 2 rfl rfl 1 (by decide) (hts _ wfT_15) (fun _ h9 => h9) rfl dT_make_15 ?_
  refine lv_iload hx hb dT_make_18 (lv_at hl 0 rfl) ?_
  refine lv_iload_n hx hb dT_make_20 rfl (lv_at hl 3 rfl) ?_
  refine va_iast hx hb hK hP hD hS 10 0 rfl rfl (vp_in_nI (show t.1 < 200 by omega) (by decide)) dT_make_21 (fun H locs hP hD hS => ?_)
  rw [nI_clamp (show t.1 < 2 ^ 31 by omega)] at hP hD
  have hP : va_P (dC, dI) vwCl (sk_wR a k (nI b.1) b.2.1 b.2.2.1 b.2.2.2.1 b.2.2.2.2 (nI t.1) (upd t.2.1 t.1 x1) (upd t.2.2.1 t.1 x2) t.2.2.2.1 t.2.2.2.2 (nI f.1) (nI (sk_there f)) (nI (f.1 % 100)) f.2.1 f.2.2.1 f.2.2.2.1 f.2.2.2.2.1 (fun i => lN (sk_nb (f.2.2.2.2.2.1 i))) (fun i => sk_bI (f.2.2.2.2.2.2 i)) wt) H := hP
  have hD : va_D A (sk_wR a k (nI b.1) b.2.1 b.2.2.1 b.2.2.2.1 b.2.2.2.2 (nI t.1) (upd t.2.1 t.1 x1) (upd t.2.2.1 t.1 x2) t.2.2.2.1 t.2.2.2.2 (nI f.1) (nI (sk_there f)) (nI (f.1 % 100)) f.2.1 f.2.2.1 f.2.2.2.1 f.2.2.2.2.1 (fun i => lN (sk_nb (f.2.2.2.2.2.1 i))) (fun i => sk_bI (f.2.2.2.2.2.2 i)) wt) := hD
  refine lv_aload_n hx hb dT_make_22 rfl (lv_at hl 1 rfl) ?_
  refine va_get (D := (dC, dI)) (ci := 2) (v := .ref (a 11)) (C := RT) (T := TT) (N := 5) hx hb hts inT hown hK hP 2 rfl rfl 2 (by decide) (hts _ wfT_18) (fun _ h9 => h9) rfl dT_make_23 ?_
  refine lv_iload hx hb dT_make_26 (lv_at hl 0 rfl) ?_
  refine lv_iload_n hx hb dT_make_28 rfl (lv_at hl 4 rfl) ?_
  refine va_iast hx hb hK hP hD hS 11 0 rfl rfl (vp_in_nI (show t.1 < 200 by omega) (by decide)) dT_make_29 (fun H locs hP hD hS => ?_)
  rw [nI_clamp (show t.1 < 2 ^ 31 by omega)] at hP hD
  have hP : va_P (dC, dI) vwCl (sk_wR a k (nI b.1) b.2.1 b.2.2.1 b.2.2.2.1 b.2.2.2.2 (nI t.1) (upd t.2.1 t.1 x1) (upd t.2.2.1 t.1 x2) (upd t.2.2.2.1 t.1 x3) t.2.2.2.2 (nI f.1) (nI (sk_there f)) (nI (f.1 % 100)) f.2.1 f.2.2.1 f.2.2.2.1 f.2.2.2.2.1 (fun i => lN (sk_nb (f.2.2.2.2.2.1 i))) (fun i => sk_bI (f.2.2.2.2.2.2 i)) wt) H := hP
  have hD : va_D A (sk_wR a k (nI b.1) b.2.1 b.2.2.1 b.2.2.2.1 b.2.2.2.2 (nI t.1) (upd t.2.1 t.1 x1) (upd t.2.2.1 t.1 x2) (upd t.2.2.2.1 t.1 x3) t.2.2.2.2 (nI f.1) (nI (sk_there f)) (nI (f.1 % 100)) f.2.1 f.2.2.1 f.2.2.2.1 f.2.2.2.2.1 (fun i => lN (sk_nb (f.2.2.2.2.2.1 i))) (fun i => sk_bI (f.2.2.2.2.2.2 i)) wt) := hD
  refine lv_aload_n hx hb dT_make_30 rfl (lv_at hl 1 rfl) ?_
  refine va_get (D := (dC, dI)) (ci := 2) (v := .ref (a 12)) (C := RT) (T := TT) (N := 5) hx hb hts inT hown hK hP 2 rfl rfl 3 (by decide) (hts _ wfT_21) (fun _ h9 => h9) rfl dT_make_31 ?_
  refine lv_iload hx hb dT_make_34 (lv_at hl 0 rfl) ?_
  refine lv_iload hx hb dT_make_36 (lv_at hl 5 rfl) ?_
  refine va_iast hx hb hK hP hD hS 12 0 rfl rfl (vp_in_nI (show t.1 < 200 by omega) (by decide)) dT_make_38 (fun H locs hP hD hS => ?_)
  rw [nI_clamp (show t.1 < 2 ^ 31 by omega)] at hP hD
  have hP : va_P (dC, dI) vwCl (sk_wR a k (nI b.1) b.2.1 b.2.2.1 b.2.2.2.1 b.2.2.2.2 (nI t.1) (upd t.2.1 t.1 x1) (upd t.2.2.1 t.1 x2) (upd t.2.2.2.1 t.1 x3) (upd t.2.2.2.2 t.1 x4) (nI f.1) (nI (sk_there f)) (nI (f.1 % 100)) f.2.1 f.2.2.1 f.2.2.2.1 f.2.2.2.2.1 (fun i => lN (sk_nb (f.2.2.2.2.2.1 i))) (fun i => sk_bI (f.2.2.2.2.2.2 i)) wt) H := hP
  have hD : va_D A (sk_wR a k (nI b.1) b.2.1 b.2.2.1 b.2.2.2.1 b.2.2.2.2 (nI t.1) (upd t.2.1 t.1 x1) (upd t.2.2.1 t.1 x2) (upd t.2.2.2.1 t.1 x3) (upd t.2.2.2.2 t.1 x4) (nI f.1) (nI (sk_there f)) (nI (f.1 % 100)) f.2.1 f.2.2.1 f.2.2.2.1 f.2.2.2.2.1 (fun i => lN (sk_nb (f.2.2.2.2.2.1 i))) (fun i => sk_bI (f.2.2.2.2.2.2 i)) wt) := hD
  refine lv_aload_n hx hb dT_make_39 rfl (lv_at hl 1 rfl) ?_
  refine lv_dup hx hb dT_make_40 rfl ?_
  refine va_get (D := (dC, dI)) (ci := 2) (v := .int (nI t.1)) (C := RT) (T := TT) (N := 5) hx hb hts inT hown hK hP 2 rfl rfl 4 (by decide) (hts _ wfT_24) (fun _ h9 => h9) rfl dT_make_41 ?_
  refine lv_iconst (v := nI 1) hx hb dT_make_44 (by decide) ?_
  refine lv_iadd hx hb dT_make_45 ?_
  refine lv_topi (fun x45 e45 => ?_)
  obtain rfl : x45 = nI (t.1 + 1) := e45.trans (nI_add _ _)
  refine va_put (D := (dC, dI)) (ci := 2) (v := .int (nI (t.1 + 1))) (ty := .int) (C := RT) (T := TT) (N := 5) hx hb hts inT tyT tyT_ok nmT hown hK hP hD hS 2 rfl rfl 4 (by decide) (hts _ wfT_24) (fun _ h9 => h9) rfl (by decide +kernel) rfl rfl (Nat.le_of_ble_eq_true rfl) dT_make_46 (fun H locs hP hD hS => ?_)
  have hP : va_P (dC, dI) vwCl (sk_wR a k (nI b.1) b.2.1 b.2.2.1 b.2.2.2.1 b.2.2.2.2 (nI (t.1 + 1)) (upd t.2.1 t.1 x1) (upd t.2.2.1 t.1 x2) (upd t.2.2.2.1 t.1 x3) (upd t.2.2.2.2 t.1 x4) (nI f.1) (nI (sk_there f)) (nI (f.1 % 100)) f.2.1 f.2.2.1 f.2.2.2.1 f.2.2.2.2.1 (fun i => lN (sk_nb (f.2.2.2.2.2.1 i))) (fun i => sk_bI (f.2.2.2.2.2.2 i)) wt) H := hP
  have hD : va_D A (sk_wR a k (nI b.1) b.2.1 b.2.2.1 b.2.2.2.1 b.2.2.2.2 (nI (t.1 + 1)) (upd t.2.1 t.1 x1) (upd t.2.2.1 t.1 x2) (upd t.2.2.2.1 t.1 x3) (upd t.2.2.2.2 t.1 x4) (nI f.1) (nI (sk_there f)) (nI (f.1 % 100)) f.2.1 f.2.2.1 f.2.2.2.1 f.2.2.2.2.1 (fun i => lN (sk_nb (f.2.2.2.2.2.1 i))) (fun i => sk_bI (f.2.2.2.2.2.2 i)) wt) := hD
  refine lv_iload hx hb dT_make_49 (lv_at hl 0 rfl) ?_
  exact W.iret (v := nI t.1) hx hb hr (fun U9 ht hW => ⟨⟨nI t.1, ((b, sk_make t x1 x2 x3 x4, f), wt), rfl, ⟨rfl, rfl⟩, sk_endw ht hP hD⟩, hS.F ht⟩) hS.2.2 dT_make_51
abbrev wzT_makeEmpty : List Cond := .code yT_makeEmpty cT_makeEmpty 2 (some .int) :: sk_W
abbrev rzT_makeEmpty : Room := { frames := 1, cells := 0, slots := 0, locals := 25 }
set_option maxHeartbeats 4000000 in
set_option maxRecDepth 100000 in
theorem kT_makeEmpty (l : Launch) (dC : Nat → ClassId) (dI : Nat → Nat → Nat) (a : Nat → Nat) (k : Nat → ClassId) (b : sk_Ob) (t : sk_Tr) (f : sk_Fi) (wt : sk_F) (A : Nat → Prop) (x : Int32) (hn : t.1 < 200) : Met l yT_makeEmpty wzT_makeEmpty rzT_makeEmpty (va_Pc [.ref (a 2), .int x] (fun U => sk_PX dC dI a k (b, t, f) wt U ∧ va_D A (sk_wX a k (b, t, f) wt))) (va_Qi (fun r (u : sk_S × sk_F) => r = nI t.1 ∧ u = ((b, sk_make t x (-1) (-1) 0, f), wt)) (fun u U => va_P (dC, dI) vwCl (sk_wX a k u.1 u.2) U.heap ∧ va_D A (sk_wX a k u.1 u.2)) A) 0 0 A := by
  refine Met.ofW (cc := cT_makeEmpty) (maxL := 2) (ret := (some .int)) (by decide) rfl ?_
  intro p e s m args below meth c s₁ B hml hv
  obtain ⟨rfl, ⟨hP, hK, hN⟩, hD⟩ := hv
  have hx := B.exec
  have hb := B.bytes
  have hr := B.returns
  have hts : ∀ w ∈ sk_W, w.before ([.ref (a 2), .int x] : List Value).toArray s = true := fun w h => atoms_spec (ws := wzT_makeEmpty) B.pre w (List.mem_cons_of_mem _ h)
  have hown : s.vm.findClass RT = some m.cls := findClass_of_methodNamed B.named
  have hlocks := B.notSynchronized
  have hS : va_S A s.heap s.heap [] := va_S.rf
  have hP : va_P (dC, dI) vwCl (sk_wR a k (nI b.1) b.2.1 b.2.2.1 b.2.2.2.1 b.2.2.2.2 (nI t.1) t.2.1 t.2.2.1 t.2.2.2.1 t.2.2.2.2 (nI f.1) (nI (sk_there f)) (nI (f.1 % 100)) f.2.1 f.2.2.1 f.2.2.2.1 f.2.2.2.2.1 (fun i => lN (sk_nb (f.2.2.2.2.2.1 i))) (fun i => sk_bI (f.2.2.2.2.2.2 i)) wt) s.heap := hP
  have hD : va_D A (sk_wR a k (nI b.1) b.2.1 b.2.2.1 b.2.2.2.1 b.2.2.2.2 (nI t.1) t.2.1 t.2.2.1 t.2.2.2.1 t.2.2.2.2 (nI f.1) (nI (sk_there f)) (nI (f.1 % 100)) f.2.1 f.2.2.1 f.2.2.2.1 f.2.2.2.2.1 (fun i => lN (sk_nb (f.2.2.2.2.2.1 i))) (fun i => sk_bI (f.2.2.2.2.2.2 i)) wt) := hD
  have hl := lv_entry ([.ref (a 2), .int x]) (n := 2) (Nat.le_of_ble_eq_true rfl)
  rw [lg_entry_eq]
  generalize (lg_sl ([.ref (a 2), .int x]) ++ List.replicate (2 - (lg_sl ([.ref (a 2), .int x])).length) Slot.unset).toArray = ls at hl ⊢
  have hl : lv_has ls 2 [(0, .ref (a 2)), (1, .int x)] := hl
  refine lv_aload_n hx hb dT_makeEmpty_0 rfl (lv_at hl 0 rfl) ?_
  refine lv_iload_n hx hb dT_makeEmpty_1 rfl (lv_at hl 1 rfl) ?_
  refine lv_iconst (v := (-1)) hx hb dT_makeEmpty_2 (by decide) ?_
  refine lv_iconst (v := (-1)) hx hb dT_makeEmpty_3 (by decide) ?_
  refine lv_iconst (v := nI 0) hx hb dT_makeEmpty_4 (by decide) ?_
  refine va_calli (va_runV (As := [.int x, .int (-1), .int (-1), .int (nI 0)]) (rest := []) ⟨hx, hb, hml, hown, hts⟩ (kT_make l dC dI a k b t f wt A x (-1) (-1) (nI 0) hn) (cwV 4 hts (sk_gV wmT_42 wiT_make wsT_make wnT wcT_make) rfl rfl rfl (by decide +kernel) ⟨Nat.le_of_ble_eq_true rfl, Nat.le_of_ble_eq_true rfl⟩) ⟨sk_blindD _, va_recv hK hP (ci := 2) (q0 := 2) rfl rfl, fun U hU hW => ⟨rfl, sk_at (S := (b, t, f)) (wt := wt) hP hK hN hU hW, hD⟩⟩ rfl rfl hl.1 rfl (lv_room (Nat.le_of_ble_eq_true rfl)) dT_makeEmpty_5 ⟨Nat.le_of_ble_eq_true rfl, Nat.le_of_ble_eq_true rfl⟩) hS (fun _ _ h => h) (fun _ h => h) (fun r5 u5 U9 H locs ht hvm w5 hB hz hk hS => ?_)
  obtain ⟨hP, hD⟩ := hB
  rw [ht] at hP
  obtain ⟨rfl, rfl⟩ := w5
  have hP : va_P (dC, dI) vwCl (sk_wR a k (nI b.1) b.2.1 b.2.2.1 b.2.2.2.1 b.2.2.2.2 (nI (sk_make t x (-1) (-1) (nI 0)).1) ((sk_make t x (-1) (-1) (nI 0)).2.1) ((sk_make t x (-1) (-1) (nI 0)).2.2.1) ((sk_make t x (-1) (-1) (nI 0)).2.2.2.1) ((sk_make t x (-1) (-1) (nI 0)).2.2.2.2) (nI f.1) (nI (sk_there f)) (nI (f.1 % 100)) f.2.1 f.2.2.1 f.2.2.2.1 f.2.2.2.2.1 (fun i => lN (sk_nb (f.2.2.2.2.2.1 i))) (fun i => sk_bI (f.2.2.2.2.2.2 i)) wt) H := hP
  have hD : va_D A (sk_wR a k (nI b.1) b.2.1 b.2.2.1 b.2.2.2.1 b.2.2.2.2 (nI (sk_make t x (-1) (-1) (nI 0)).1) ((sk_make t x (-1) (-1) (nI 0)).2.1) ((sk_make t x (-1) (-1) (nI 0)).2.2.1) ((sk_make t x (-1) (-1) (nI 0)).2.2.2.1) ((sk_make t x (-1) (-1) (nI 0)).2.2.2.2) (nI f.1) (nI (sk_there f)) (nI (f.1 % 100)) f.2.1 f.2.2.1 f.2.2.2.1 f.2.2.2.2.1 (fun i => lN (sk_nb (f.2.2.2.2.2.1 i))) (fun i => sk_bI (f.2.2.2.2.2.2 i)) wt) := hD
  exact W.iret (v := nI t.1) hx hb hr (fun U9 ht hW => ⟨⟨nI t.1, ((b, sk_make t x (-1) (-1) (nI 0), f), wt), rfl, ⟨rfl, rfl⟩, sk_endw ht hP hD⟩, hS.F ht⟩) hS.2.2 dT_makeEmpty_8
abbrev wzT_makeWith : List Cond := .code yT_makeWith cT_makeWith 3 (some .int) :: sk_W
abbrev rzT_makeWith : Room := { frames := 1, cells := 0, slots := 0, locals := 25 }
set_option maxHeartbeats 4000000 in
set_option maxRecDepth 100000 in
theorem kT_makeWith (l : Launch) (dC : Nat → ClassId) (dI : Nat → Nat → Nat) (a : Nat → Nat) (k : Nat → ClassId) (b : sk_Ob) (t : sk_Tr) (f : sk_Fi) (wt : sk_F) (A : Nat → Prop) (si : Nat) (x : Int32) (hs : si < t.1) (hn : t.1 < 200) : Met l yT_makeWith wzT_makeWith rzT_makeWith (va_Pc [.ref (a 2), .int (nI si), .int x] (fun U => sk_PX dC dI a k (b, t, f) wt U ∧ va_D A (sk_wX a k (b, t, f) wt))) (va_Qi (fun r (u : sk_S × sk_F) => r = nI t.1 ∧ u = ((b, sk_grow1 t si x, f), wt)) (fun u U => va_P (dC, dI) vwCl (sk_wX a k u.1 u.2) U.heap ∧ va_D A (sk_wX a k u.1 u.2)) A) 0 0 A := by
  refine Met.ofW (cc := cT_makeWith) (maxL := 3) (ret := (some .int)) (by decide) rfl ?_
  intro p e s m args below meth c s₁ B hml hv
  obtain ⟨rfl, ⟨hP, hK, hN⟩, hD⟩ := hv
  have hx := B.exec
  have hb := B.bytes
  have hr := B.returns
  have hts : ∀ w ∈ sk_W, w.before ([.ref (a 2), .int (nI si), .int x] : List Value).toArray s = true := fun w h => atoms_spec (ws := wzT_makeWith) B.pre w (List.mem_cons_of_mem _ h)
  have hown : s.vm.findClass RT = some m.cls := findClass_of_methodNamed B.named
  have hlocks := B.notSynchronized
  have hS : va_S A s.heap s.heap [] := va_S.rf
  have hP : va_P (dC, dI) vwCl (sk_wR a k (nI b.1) b.2.1 b.2.2.1 b.2.2.2.1 b.2.2.2.2 (nI t.1) t.2.1 t.2.2.1 t.2.2.2.1 t.2.2.2.2 (nI f.1) (nI (sk_there f)) (nI (f.1 % 100)) f.2.1 f.2.2.1 f.2.2.2.1 f.2.2.2.2.1 (fun i => lN (sk_nb (f.2.2.2.2.2.1 i))) (fun i => sk_bI (f.2.2.2.2.2.2 i)) wt) s.heap := hP
  have hD : va_D A (sk_wR a k (nI b.1) b.2.1 b.2.2.1 b.2.2.2.1 b.2.2.2.2 (nI t.1) t.2.1 t.2.2.1 t.2.2.2.1 t.2.2.2.2 (nI f.1) (nI (sk_there f)) (nI (f.1 % 100)) f.2.1 f.2.2.1 f.2.2.2.1 f.2.2.2.2.1 (fun i => lN (sk_nb (f.2.2.2.2.2.1 i))) (fun i => sk_bI (f.2.2.2.2.2.2 i)) wt) := hD
  have hl := lv_entry ([.ref (a 2), .int (nI si), .int x]) (n := 3) (Nat.le_of_ble_eq_true rfl)
  rw [lg_entry_eq]
  generalize (lg_sl ([.ref (a 2), .int (nI si), .int x]) ++ List.replicate (3 - (lg_sl ([.ref (a 2), .int (nI si), .int x])).length) Slot.unset).toArray = ls at hl ⊢
  have hl : lv_has ls 3 [(0, .ref (a 2)), (1, .int (nI si)), (2, .int x)] := hl
  refine lv_aload_n hx hb dT_makeWith_0 rfl (lv_at hl 0 rfl) ?_
  refine lv_aload_n hx hb dT_makeWith_1 rfl (lv_at hl 0 rfl) ?_
  refine va_get (D := (dC, dI)) (ci := 2) (v := .ref (a 9)) (C := RT) (T := TT) (N := 5) hx hb hts inT hown hK hP 2 rfl rfl 0 (by decide) (hts _ wfT_9) (fun _ h9 => h9) rfl dT_makeWith_2 ?_
  refine lv_iload_n hx hb dT_makeWith_5 rfl (lv_at hl 1 rfl) ?_
  refine va_iald hx hb hK hP 9 0 rfl rfl (vp_in_nI (show si < 200 by omega) (by decide)) dT_makeWith_6 ?_
  refine lv_topi (fun x6 e6 => ?_)
  rw [nI_clamp (show si < 2 ^ 31 by omega)] at e6
  refine lv_iload_n hx hb dT_makeWith_7 rfl (lv_at hl 1 rfl) ?_
  refine lv_iload_n hx hb dT_makeWith_8 rfl (lv_at hl 2 rfl) ?_
  refine lv_aload_n hx hb dT_makeWith_9 rfl (lv_at hl 0 rfl) ?_
  refine va_get (D := (dC, dI)) (ci := 2) (v := .ref (a 12)) (C := RT) (T := TT) (N := 5) hx hb hts inT hown hK hP 2 rfl rfl 3 (by decide) (hts _ wfT_21) (fun _ h9 => h9) rfl dT_makeWith_10 ?_
  refine lv_iload_n hx hb dT_makeWith_13 rfl (lv_at hl 1 rfl) ?_
  refine va_iald hx hb hK hP 12 0 rfl rfl (vp_in_nI (show si < 200 by omega) (by decide)) dT_makeWith_14 ?_
  refine lv_topi (fun x14 e14 => ?_)
  rw [nI_clamp (show si < 2 ^ 31 by omega)] at e14
  refine lv_iconst (v := nI 1) hx hb dT_makeWith_15 (by decide) ?_
  refine lv_iadd hx hb dT_makeWith_16 ?_
  refine lv_topi (fun x16 e16 => ?_)
  refine va_calli (va_runV (As := [.int x6, .int (nI si), .int x, .int x16]) (rest := []) ⟨hx, hb, hml, hown, hts⟩ (kT_make l dC dI a k b t f wt A x6 (nI si) x x16 hn) (cwV 4 hts (sk_gV wmT_42 wiT_make wsT_make wnT wcT_make) rfl rfl rfl (by decide +kernel) ⟨Nat.le_of_ble_eq_true rfl, Nat.le_of_ble_eq_true rfl⟩) ⟨sk_blindD _, va_recv hK hP (ci := 2) (q0 := 2) rfl rfl, fun U hU hW => ⟨rfl, sk_at (S := (b, t, f)) (wt := wt) hP hK hN hU hW, hD⟩⟩ rfl rfl hl.1 rfl (lv_room (Nat.le_of_ble_eq_true rfl)) dT_makeWith_17 ⟨Nat.le_of_ble_eq_true rfl, Nat.le_of_ble_eq_true rfl⟩) hS (fun _ _ h => h) (fun _ h => h) (fun r17 u17 U9 H locs ht hvm w17 hB hz hk hS => ?_)
  obtain ⟨hP, hD⟩ := hB
  rw [ht] at hP
  obtain ⟨rfl, rfl⟩ := w17
  have hP : va_P (dC, dI) vwCl (sk_wR a k (nI b.1) b.2.1 b.2.2.1 b.2.2.2.1 b.2.2.2.2 (nI (sk_make t x6 (nI si) x x16).1) ((sk_make t x6 (nI si) x x16).2.1) ((sk_make t x6 (nI si) x x16).2.2.1) ((sk_make t x6 (nI si) x x16).2.2.2.1) ((sk_make t x6 (nI si) x x16).2.2.2.2) (nI f.1) (nI (sk_there f)) (nI (f.1 % 100)) f.2.1 f.2.2.1 f.2.2.2.1 f.2.2.2.2.1 (fun i => lN (sk_nb (f.2.2.2.2.2.1 i))) (fun i => sk_bI (f.2.2.2.2.2.2 i)) wt) H := hP
  have hD : va_D A (sk_wR a k (nI b.1) b.2.1 b.2.2.1 b.2.2.2.1 b.2.2.2.2 (nI (sk_make t x6 (nI si) x x16).1) ((sk_make t x6 (nI si) x x16).2.1) ((sk_make t x6 (nI si) x x16).2.2.1) ((sk_make t x6 (nI si) x x16).2.2.2.1) ((sk_make t x6 (nI si) x x16).2.2.2.2) (nI f.1) (nI (sk_there f)) (nI (f.1 % 100)) f.2.1 f.2.2.1 f.2.2.2.1 f.2.2.2.2.1 (fun i => lN (sk_nb (f.2.2.2.2.2.1 i))) (fun i => sk_bI (f.2.2.2.2.2.2 i)) wt) := hD
  exact W.iret (v := nI t.1) hx hb hr (fun U9 ht hW => ⟨⟨nI t.1, ((b, sk_make t x6 (nI si) x x16, f), wt), rfl, ⟨rfl, by rw [e16, e14, e6]; rfl⟩, sk_endw ht hP hD⟩, hS.F ht⟩) hS.2.2 dT_makeWith_20
abbrev wzT_grow : List Cond := .code yT_grow cT_grow 4 (some .int) :: sk_W
abbrev rzT_grow : Room := { frames := 2, cells := 0, slots := 0, locals := 47 }
set_option maxHeartbeats 4000000 in
set_option maxRecDepth 100000 in
theorem kT_grow (l : Launch) (dC : Nat → ClassId) (dI : Nat → Nat → Nat) (a : Nat → Nat) (k : Nat → ClassId) (b : sk_Ob) (t : sk_Tr) (f : sk_Fi) (wt : sk_F) (A : Nat → Prop) (si : Nat) (x : Int32) (hT : sk_TO b.1 t) (hs : si < t.1) : Met l yT_grow wzT_grow rzT_grow (va_Pc [.ref (a 2), .int (nI si), .int x] (fun U => sk_PX dC dI a k (b, t, f) wt U ∧ va_D A (sk_wX a k (b, t, f) wt))) (va_Qi (fun r (u : sk_S × sk_F) => (sk_grow t si x = none ∧ r = -1 ∧ u = ((b, t, f), wt)) ∨ ∃ t2 g, sk_grow t si x = some (t2, g) ∧ r = nI g ∧ u = ((b, t2, f), wt)) (fun u U => va_P (dC, dI) vwCl (sk_wX a k u.1 u.2) U.heap ∧ va_D A (sk_wX a k u.1 u.2)) A) 0 0 A := by
  refine Met.ofW (cc := cT_grow) (maxL := 4) (ret := (some .int)) (by decide) rfl ?_
  intro p e s m args below meth c s₁ B hml hv
  obtain ⟨rfl, ⟨hP, hK, hN⟩, hD⟩ := hv
  have hx := B.exec
  have hb := B.bytes
  have hr := B.returns
  have hts : ∀ w ∈ sk_W, w.before ([.ref (a 2), .int (nI si), .int x] : List Value).toArray s = true := fun w h => atoms_spec (ws := wzT_grow) B.pre w (List.mem_cons_of_mem _ h)
  have hown : s.vm.findClass RT = some m.cls := findClass_of_methodNamed B.named
  have hlocks := B.notSynchronized
  have hS : va_S A s.heap s.heap [] := va_S.rf
  have hP : va_P (dC, dI) vwCl (sk_wR a k (nI b.1) b.2.1 b.2.2.1 b.2.2.2.1 b.2.2.2.2 (nI t.1) t.2.1 t.2.2.1 t.2.2.2.1 t.2.2.2.2 (nI f.1) (nI (sk_there f)) (nI (f.1 % 100)) f.2.1 f.2.2.1 f.2.2.2.1 f.2.2.2.2.1 (fun i => lN (sk_nb (f.2.2.2.2.2.1 i))) (fun i => sk_bI (f.2.2.2.2.2.2 i)) wt) s.heap := hP
  have hD : va_D A (sk_wR a k (nI b.1) b.2.1 b.2.2.1 b.2.2.2.1 b.2.2.2.2 (nI t.1) t.2.1 t.2.2.1 t.2.2.2.1 t.2.2.2.2 (nI f.1) (nI (sk_there f)) (nI (f.1 % 100)) f.2.1 f.2.2.1 f.2.2.2.1 f.2.2.2.2.1 (fun i => lN (sk_nb (f.2.2.2.2.2.1 i))) (fun i => sk_bI (f.2.2.2.2.2.2 i)) wt) := hD
  have hl := lv_entry ([.ref (a 2), .int (nI si), .int x]) (n := 4) (Nat.le_of_ble_eq_true rfl)
  rw [lg_entry_eq]
  generalize (lg_sl ([.ref (a 2), .int (nI si), .int x]) ++ List.replicate (4 - (lg_sl ([.ref (a 2), .int (nI si), .int x])).length) Slot.unset).toArray = ls at hl ⊢
  have hl : lv_has ls 4 [(0, .ref (a 2)), (1, .int (nI si)), (2, .int x)] := hl
  have h200 : t.1 ≤ 200 := hT.2.1
  have h60 : b.1 ≤ 60 := hT.2.2.1
  refine lv_aload_n hx hb dT_grow_0 rfl (lv_at hl 0 rfl) ?_
  refine lv_iload_n hx hb dT_grow_1 rfl (lv_at hl 1 rfl) ?_
  refine lv_iload_n hx hb dT_grow_2 rfl (lv_at hl 2 rfl) ?_
  refine va_calli (va_runV (As := [.int (nI si), .int x]) (rest := []) ⟨hx, hb, hml, hown, hts⟩ (kT_withName l dC dI a k b t f wt si x hT hs) (cwV 2 hts (sk_gV wmT_28 wiT_withName wsT_withName wnT wcT_withName) rfl rfl rfl (by decide +kernel) ⟨Nat.le_of_ble_eq_true rfl, Nat.le_of_ble_eq_true rfl⟩) ⟨sk_blind _, va_recv hK hP (ci := 2) (q0 := 2) rfl rfl, fun U hU hW => ⟨rfl, sk_at (S := (b, t, f)) (wt := wt) hP hK hN hU hW⟩⟩ rfl rfl hl.1 rfl (lv_room (Nat.le_of_ble_eq_true rfl)) dT_grow_3 ⟨Nat.le_of_ble_eq_true rfl, Nat.le_of_ble_eq_true rfl⟩) hS (fun _ _ h => h.elim) (fun _ h => h.elim) (fun r3 u3 U9 H locs ht hvm w3 hB hz hk hS => ?_)
  have hP : va_P (dC, dI) vwCl (sk_wR a k (nI b.1) b.2.1 b.2.2.1 b.2.2.2.1 b.2.2.2.2 (nI t.1) t.2.1 t.2.2.1 t.2.2.2.1 t.2.2.2.2 (nI f.1) (nI (sk_there f)) (nI (f.1 % 100)) f.2.1 f.2.2.1 f.2.2.2.1 f.2.2.2.2.1 (fun i => lN (sk_nb (f.2.2.2.2.2.1 i))) (fun i => sk_bI (f.2.2.2.2.2.2 i)) wt) H := hP.kept (fun j q hq => hk q.1 ((hP j q hq).lt) (fun h => h))
  clear hk hB ht
  refine lv_istore_n (lv' := [(3, .int r3), (0, .ref (a 2)), (1, .int (nI si)), (2, .int x)]) hx hb dT_grow_6 rfl hl (by decide) rfl (fun ls hl => ?_)
  refine lv_iload_n hx hb dT_grow_7 rfl (lv_at hl 0 rfl) ?_
  refine lv_iconst (v := (-1)) hx hb dT_grow_8 (by decide) ?_
  refine lv_icmp_ne (tgt := 22) hx hb dT_grow_9 (by decide) (fun c9 => ?_) (fun c9 => ?_)
  · skip
    refine lv_iload_n hx hb dT_grow_22 rfl (lv_at hl 0 rfl) ?_
    exact W.iret (v := r3) hx hb hr (fun U9 ht hW => ⟨⟨r3, ((b, t, f), wt), rfl, (by obtain ⟨g, q1, q2⟩ := sk_grow_hit hT hs (by rw [← w3]; exact c9); exact Or.inr ⟨t, g, q1, w3.trans q2, rfl⟩), sk_endw ht hP hD⟩, hS.F ht⟩) hS.2.2 dT_grow_23
  · skip
    refine lv_aload_n hx hb dT_grow_12 rfl (lv_at hl 1 rfl) ?_
    refine va_get (D := (dC, dI)) (ci := 2) (v := .int (nI t.1)) (C := RT) (T := TT) (N := 5) hx hb hts inT hown hK hP 2 rfl rfl 4 (by decide) (hts _ wfT_24) (fun _ h9 => h9) rfl dT_grow_13 ?_
    refine lv_sipush (v := nI 200) hx hb dT_grow_16 (by decide) ?_
    refine lv_icmp_lt (tgt := 24) hx hb dT_grow_19 (by decide) (fun c19 => ?_) (fun c19 => ?_)
    · skip
      have n19 : t.1 < 200 := (nI_ltI (a := t.1) (b := 200) (by omega) (by omega)).mp c19
      refine lv_aload_n hx hb dT_grow_24 rfl (lv_at hl 1 rfl) ?_
      refine lv_iload_n hx hb dT_grow_25 rfl (lv_at hl 2 rfl) ?_
      refine lv_iload_n hx hb dT_grow_26 rfl (lv_at hl 3 rfl) ?_
      refine va_calli (va_runV (As := [.int (nI si), .int x]) (rest := []) ⟨hx, hb, hml, hown, hts⟩ (kT_makeWith l dC dI a k b t f wt A si x hs (by omega)) (cwV 2 hts (sk_gV wmT_32 wiT_makeWith wsT_makeWith wnT wcT_makeWith) rfl rfl rfl (by decide +kernel) ⟨Nat.le_of_ble_eq_true rfl, Nat.le_of_ble_eq_true rfl⟩) ⟨sk_blindD _, va_recv hK hP (ci := 2) (q0 := 2) rfl rfl, fun U hU hW => ⟨rfl, sk_at (S := (b, t, f)) (wt := wt) hP hK hN hU hW, hD⟩⟩ rfl rfl hl.1 rfl (lv_room (Nat.le_of_ble_eq_true rfl)) dT_grow_27 ⟨Nat.le_of_ble_eq_true rfl, Nat.le_of_ble_eq_true rfl⟩) hS (fun _ _ h => h) (fun _ h => h) (fun r27 u27 U9 H locs ht hvm w27 hB hz hk hS => ?_)
      obtain ⟨hP, hD⟩ := hB
      rw [ht] at hP
      obtain ⟨rfl, rfl⟩ := w27
      have hP : va_P (dC, dI) vwCl (sk_wR a k (nI b.1) b.2.1 b.2.2.1 b.2.2.2.1 b.2.2.2.2 (nI (sk_grow1 t si x).1) ((sk_grow1 t si x).2.1) ((sk_grow1 t si x).2.2.1) ((sk_grow1 t si x).2.2.2.1) ((sk_grow1 t si x).2.2.2.2) (nI f.1) (nI (sk_there f)) (nI (f.1 % 100)) f.2.1 f.2.2.1 f.2.2.2.1 f.2.2.2.2.1 (fun i => lN (sk_nb (f.2.2.2.2.2.1 i))) (fun i => sk_bI (f.2.2.2.2.2.2 i)) wt) H := hP
      have hD : va_D A (sk_wR a k (nI b.1) b.2.1 b.2.2.1 b.2.2.2.1 b.2.2.2.2 (nI (sk_grow1 t si x).1) ((sk_grow1 t si x).2.1) ((sk_grow1 t si x).2.2.1) ((sk_grow1 t si x).2.2.2.1) ((sk_grow1 t si x).2.2.2.2) (nI f.1) (nI (sk_there f)) (nI (f.1 % 100)) f.2.1 f.2.2.1 f.2.2.2.1 f.2.2.2.2.1 (fun i => lN (sk_nb (f.2.2.2.2.2.1 i))) (fun i => sk_bI (f.2.2.2.2.2.2 i)) wt) := hD
      exact W.iret (v := nI t.1) hx hb hr (fun U9 ht hW => ⟨⟨nI t.1, ((b, sk_grow1 t si x, f), wt), rfl, Or.inr ⟨sk_grow1 t si x, t.1, by unfold sk_grow; rw [if_pos (w3.symm.trans c9), if_neg (by omega)], rfl, rfl⟩, sk_endw ht hP hD⟩, hS.F ht⟩) hS.2.2 dT_grow_30
    · skip
      have n19 : ¬ t.1 < 200 := fun z9 => c19 ((nI_ltI (a := t.1) (b := 200) (by omega) (by omega)).mpr z9)
      refine lv_iload_n hx hb dT_grow_22 rfl (lv_at hl 0 rfl) ?_
      exact W.iret (v := r3) hx hb hr (fun U9 ht hW => ⟨⟨r3, ((b, t, f), wt), rfl, Or.inl ⟨by unfold sk_grow; rw [if_pos (w3.symm.trans c9), if_pos (by omega)], c9, rfl⟩, sk_endw ht hP hD⟩, hS.F ht⟩) hS.2.2 dT_grow_23
abbrev wzT_listNames : List Cond := .code yT_listNames cT_listNames 7 (some .int) :: sk_W
abbrev rzT_listNames : Room := { frames := 1, cells := 0, slots := 0, locals := 25 }
set_option maxHeartbeats 4000000 in
set_option maxRecDepth 100000 in
theorem kT_listNames (l : Launch) (dC : Nat → ClassId) (dI : Nat → Nat → Nat) (a : Nat → Nat) (k : Nat → ClassId) (b : sk_Ob) (t : sk_Tr) (f : sk_Fi) (wt : sk_F) (A : Nat → Prop) (si : Nat) (x : Int32) (hT : sk_TO b.1 t) (hs : si < t.1) : Met l yT_listNames wzT_listNames rzT_listNames (va_Pc [.ref (a 2), .int (nI si), .int x, .ref (a 4)] (fun U => sk_PX dC dI a k (b, t, f) wt U ∧ va_D A (sk_wX a k (b, t, f) wt))) (va_Qi (fun r (u : sk_S × sk_F) => r = nI (sk_left t si x).length ∧ ∃ wt2 : sk_F, u = ((b, t, f), wt2) ∧ ∀ j, j < (sk_left t si x).length → wt2 j = (sk_left t si x).getD j 0) (fun u U => va_P (dC, dI) vwCl (sk_wX a k u.1 u.2) U.heap ∧ va_D A (sk_wX a k u.1 u.2)) A) 0 0 A := by
  refine Met.ofW (cc := cT_listNames) (maxL := 7) (ret := (some .int)) (by decide) rfl ?_
  intro p e s m args below meth c s₁ B hml hv
  obtain ⟨rfl, ⟨hP, hK, hN⟩, hD⟩ := hv
  have hx := B.exec
  have hb := B.bytes
  have hr := B.returns
  have hts : ∀ w ∈ sk_W, w.before ([.ref (a 2), .int (nI si), .int x, .ref (a 4)] : List Value).toArray s = true := fun w h => atoms_spec (ws := wzT_listNames) B.pre w (List.mem_cons_of_mem _ h)
  have hown : s.vm.findClass RT = some m.cls := findClass_of_methodNamed B.named
  have hlocks := B.notSynchronized
  have hS : va_S A s.heap s.heap [] := va_S.rf
  have hP : va_P (dC, dI) vwCl (sk_wR a k (nI b.1) b.2.1 b.2.2.1 b.2.2.2.1 b.2.2.2.2 (nI t.1) t.2.1 t.2.2.1 t.2.2.2.1 t.2.2.2.2 (nI f.1) (nI (sk_there f)) (nI (f.1 % 100)) f.2.1 f.2.2.1 f.2.2.2.1 f.2.2.2.2.1 (fun i => lN (sk_nb (f.2.2.2.2.2.1 i))) (fun i => sk_bI (f.2.2.2.2.2.2 i)) wt) s.heap := hP
  have hD : va_D A (sk_wR a k (nI b.1) b.2.1 b.2.2.1 b.2.2.2.1 b.2.2.2.2 (nI t.1) t.2.1 t.2.2.1 t.2.2.2.1 t.2.2.2.2 (nI f.1) (nI (sk_there f)) (nI (f.1 % 100)) f.2.1 f.2.2.1 f.2.2.2.1 f.2.2.2.2.1 (fun i => lN (sk_nb (f.2.2.2.2.2.1 i))) (fun i => sk_bI (f.2.2.2.2.2.2 i)) wt) := hD
  have hl := lv_entry ([.ref (a 2), .int (nI si), .int x, .ref (a 4)]) (n := 7) (Nat.le_of_ble_eq_true rfl)
  rw [lg_entry_eq]
  generalize (lg_sl ([.ref (a 2), .int (nI si), .int x, .ref (a 4)]) ++ List.replicate (7 - (lg_sl ([.ref (a 2), .int (nI si), .int x, .ref (a 4)])).length) Slot.unset).toArray = ls at hl ⊢
  have hl : lv_has ls 7 [(0, .ref (a 2)), (1, .int (nI si)), (2, .int x), (3, .ref (a 4))] := hl
  have h200 : t.1 ≤ 200 := hT.2.1
  have h60 : b.1 ≤ 60 := hT.2.2.1
  obtain ⟨g, hg, hle, hlen⟩ := sk_lenOk hT hs
  refine lv_iconst (v := nI 0) hx hb dT_listNames_0 (by decide) ?_
  refine lv_istore (lv' := [(4, .int (nI 0)), (0, .ref (a 2)), (1, .int (nI si)), (2, .int x), (3, .ref (a 4))]) hx hb dT_listNames_1 hl (by decide) rfl (fun ls hl => ?_)
  refine lv_iconst (v := nI 0) hx hb dT_listNames_3 (by decide) ?_
  refine lv_istore (lv' := [(5, .int (nI 0)), (4, .int (nI 0)), (0, .ref (a 2)), (1, .int (nI si)), (2, .int x), (3, .ref (a 4))]) hx hb dT_listNames_4 hl (by decide) rfl (fun ls hl => ?_)
  have loop1 : ∀ (nn : Nat) (c9 pp : Nat) (wt2 : sk_F), pp ≤ g → c9 = (sk_lft t si x pp).length → (∀ j, j < (sk_lft t si x pp).length → wt2 j = (sk_lft t si x pp).getD j 0) → g - pp < nn → ∀ (H : Heap) (locs : List Loc), va_P (dC, dI) vwCl (sk_wR a k (nI b.1) b.2.1 b.2.2.1 b.2.2.2.1 b.2.2.2.2 (nI t.1) t.2.1 t.2.2.1 t.2.2.2.1 t.2.2.2.2 (nI f.1) (nI (sk_there f)) (nI (f.1 % 100)) f.2.1 f.2.2.1 f.2.2.2.1 f.2.2.2.2.1 (fun i => lN (sk_nb (f.2.2.2.2.2.1 i))) (fun i => sk_bI (f.2.2.2.2.2.2 i)) wt2) H → va_D A (sk_wR a k (nI b.1) b.2.1 b.2.2.1 b.2.2.2.1 b.2.2.2.2 (nI t.1) t.2.1 t.2.2.1 t.2.2.2.1 t.2.2.2.2 (nI f.1) (nI (sk_there f)) (nI (f.1 % 100)) f.2.1 f.2.2.1 f.2.2.2.1 f.2.2.2.2.1 (fun i => lN (sk_nb (f.2.2.2.2.2.1 i))) (fun i => sk_bI (f.2.2.2.2.2.2 i)) wt2) → va_S A s.heap H locs → ∀ ls : Array Slot, lv_has ls 7 [(5, .int (nI pp)), (4, .int (nI c9)), (0, .ref (a 2)), (1, .int (nI si)), (2, .int x), (3, .ref (a 4))] → W p l e (headSpec wzT_listNames rzT_listNames).room s m ([.ref (a 2), .int (nI si), .int x, .ref (a 4)] : List Value).toArray below meth c H locs 0 0 (MQ below (va_Qi (fun r (u : sk_S × sk_F) => r = nI (sk_left t si x).length ∧ ∃ wt2 : sk_F, u = ((b, t, f), wt2) ∧ ∀ j, j < (sk_left t si x).length → wt2 j = (sk_left t si x).getD j 0) (fun u U => va_P (dC, dI) vwCl (sk_wX a k u.1 u.2) U.heap ∧ va_D A (sk_wX a k u.1 u.2)) A) ([.ref (a 2), .int (nI si), .int x, .ref (a 4)] : List Value).toArray s 0 0 A) (F0 m 6 ls []) := by
    intro nn
    induction nn with
    | zero => intro c9 pp wt2 hpp hc hw2 hmu; exact absurd hmu (Nat.not_lt_zero _)
    | succ nn ih1 =>
      intro c9 pp wt2 hpp hc hw2 hmu H locs hP hD hS ls hl
      refine lv_iload hx hb dT_listNames_6 (lv_at hl 0 rfl) ?_
      refine lv_aload_n hx hb dT_listNames_8 rfl (lv_at hl 2 rfl) ?_
      refine va_get (D := (dC, dI)) (ci := 2) (v := .ref (a 12)) (C := RT) (T := TT) (N := 5) hx hb hts inT hown hK hP 2 rfl rfl 3 (by decide) (hts _ wfT_21) (fun _ h9 => h9) rfl dT_listNames_9 ?_
      refine lv_iload_n hx hb dT_listNames_12 rfl (lv_at hl 3 rfl) ?_
      refine va_iald hx hb hK hP 12 0 rfl rfl (vp_in_nI (show si < 200 by omega) (by decide)) dT_listNames_13 ?_
      refine lv_topi (fun x13 e13 => ?_)
      rw [nI_clamp (show si < 2 ^ 31 by omega)] at e13
      obtain rfl : x13 = nI g := e13.trans (hle)
      refine lv_icmp_ge (tgt := 47) hx hb dT_listNames_14 (by decide) (fun c14 => ?_) (fun c14 => ?_)
      · skip
        have n14 : g ≤ pp := (nI_leI (a := g) (b := pp) (by omega) (by omega)).mp c14
        refine lv_iload hx hb dT_listNames_47 (lv_at hl 1 rfl) ?_
        have hall : sk_lft t si x pp = sk_left t si x := sk_lft_all (by omega)
        rw [hall] at hc hw2
        exact W.iret (v := nI c9) hx hb hr (fun U9 ht hW => ⟨⟨nI c9, ((b, t, f), wt2), rfl, ⟨by rw [hc], wt2, rfl, hw2⟩, sk_endw ht hP hD⟩, hS.F ht⟩) hS.2.2 dT_listNames_49
      · skip
        have n14 : ¬ g ≤ pp := fun z9 => c14 ((nI_leI (a := g) (b := pp) (by omega) (by omega)).mpr z9)
        have hcl : c9 ≤ pp := by rw [hc]; exact sk_lft_len t si x pp
        refine lv_aload_n hx hb dT_listNames_17 rfl (lv_at hl 2 rfl) ?_
        refine lv_iload_n hx hb dT_listNames_18 rfl (lv_at hl 3 rfl) ?_
        refine lv_iload hx hb dT_listNames_19 (lv_at hl 0 rfl) ?_
        refine va_calli (va_runV (As := [.int (nI si), .int (nI pp)]) (rest := []) ⟨hx, hb, hml, hown, hts⟩ (kT_nameAt l dC dI a k b t f wt2 si (nI pp) hT hs) (cwV 2 hts (sk_gV wmT_46 wiT_nameAt wsT_nameAt wnT wcT_nameAt) rfl rfl rfl (by decide +kernel) ⟨Nat.le_of_ble_eq_true rfl, Nat.le_of_ble_eq_true rfl⟩) ⟨sk_blind _, va_recv hK hP (ci := 2) (q0 := 2) rfl rfl, fun U hU hW => ⟨rfl, sk_at (S := (b, t, f)) (wt := wt2) hP hK hN hU hW⟩⟩ rfl rfl hl.1 rfl (lv_room (Nat.le_of_ble_eq_true rfl)) dT_listNames_21 ⟨Nat.le_of_ble_eq_true rfl, Nat.le_of_ble_eq_true rfl⟩) hS (fun _ _ h => h.elim) (fun _ h => h.elim) (fun r21 u21 U9 H locs ht hvm w21 hB hz hk hS => ?_)
        have hP : va_P (dC, dI) vwCl (sk_wR a k (nI b.1) b.2.1 b.2.2.1 b.2.2.2.1 b.2.2.2.2 (nI t.1) t.2.1 t.2.2.1 t.2.2.2.1 t.2.2.2.2 (nI f.1) (nI (sk_there f)) (nI (f.1 % 100)) f.2.1 f.2.2.1 f.2.2.2.1 f.2.2.2.2.1 (fun i => lN (sk_nb (f.2.2.2.2.2.1 i))) (fun i => sk_bI (f.2.2.2.2.2.2 i)) wt2) H := hP.kept (fun j q hq => hk q.1 ((hP j q hq).lt) (fun h => h))
        clear hk hB ht
        obtain rfl : r21 = sk_nm t si pp := w21.trans (by rw [if_pos (by rw [hlen]; exact sk_hasB_nI (by omega) (by omega)), nI_clamp (by omega)])
        refine lv_istore (lv' := [(6, .int (sk_nm t si pp)), (5, .int (nI pp)), (4, .int (nI c9)), (0, .ref (a 2)), (1, .int (nI si)), (2, .int x), (3, .ref (a 4))]) hx hb dT_listNames_24 hl (by decide) rfl (fun ls hl => ?_)
        refine lv_iload hx hb dT_listNames_26 (lv_at hl 0 rfl) ?_
        refine lv_iload_n hx hb dT_listNames_28 rfl (lv_at hl 5 rfl) ?_
        refine lv_icmp_eq (tgt := 41) hx hb dT_listNames_29 (by decide) (fun c29 => ?_) (fun c29 => ?_)
        · skip
          refine lv_iinc (v := nI (pp + 1)) (lv' := [(5, .int (nI (pp + 1))), (6, .int (sk_nm t si pp)), (4, .int (nI c9)), (0, .ref (a 2)), (1, .int (nI si)), (2, .int x), (3, .ref (a 4))]) hx hb dT_listNames_41 hl (k := 1) rfl (sk_inc _) (by decide) rfl (fun ls hl => ?_)
          refine lv_goto (tgt := 6) hx hb dT_listNames_44 (by decide) ?_
          exact ih1 c9 (pp + 1) wt2 (by omega) (by rw [sk_lft_s (by omega), if_pos c29, List.append_nil]; exact hc) (by rw [sk_lft_s (by omega), if_pos c29, List.append_nil]; exact hw2) (by omega) _ _ hP hD hS ls (lv_sub hl [0, 2, 3, 4, 5, 6] rfl)
        · skip
          refine lv_aload_n hx hb dT_listNames_32 rfl (lv_at hl 6 rfl) ?_
          refine lv_iload hx hb dT_listNames_33 (lv_at hl 2 rfl) ?_
          refine lv_iload hx hb dT_listNames_35 (lv_at hl 0 rfl) ?_
          refine va_iast hx hb hK hP hD hS 4 0 rfl rfl (vp_in_nI (show c9 < 12 by omega) (by decide)) dT_listNames_37 (fun H locs hP hD hS => ?_)
          rw [nI_clamp (show c9 < 2 ^ 31 by omega)] at hP hD
          have hP : va_P (dC, dI) vwCl (sk_wR a k (nI b.1) b.2.1 b.2.2.1 b.2.2.2.1 b.2.2.2.2 (nI t.1) t.2.1 t.2.2.1 t.2.2.2.1 t.2.2.2.2 (nI f.1) (nI (sk_there f)) (nI (f.1 % 100)) f.2.1 f.2.2.1 f.2.2.2.1 f.2.2.2.2.1 (fun i => lN (sk_nb (f.2.2.2.2.2.1 i))) (fun i => sk_bI (f.2.2.2.2.2.2 i)) (upd wt2 c9 (sk_nm t si pp))) H := hP
          have hD : va_D A (sk_wR a k (nI b.1) b.2.1 b.2.2.1 b.2.2.2.1 b.2.2.2.2 (nI t.1) t.2.1 t.2.2.1 t.2.2.2.1 t.2.2.2.2 (nI f.1) (nI (sk_there f)) (nI (f.1 % 100)) f.2.1 f.2.2.1 f.2.2.2.1 f.2.2.2.2.1 (fun i => lN (sk_nb (f.2.2.2.2.2.1 i))) (fun i => sk_bI (f.2.2.2.2.2.2 i)) (upd wt2 c9 (sk_nm t si pp))) := hD
          refine lv_iinc (v := nI (c9 + 1)) (lv' := [(4, .int (nI (c9 + 1))), (6, .int (sk_nm t si pp)), (5, .int (nI pp)), (0, .ref (a 2)), (1, .int (nI si)), (2, .int x), (3, .ref (a 4))]) hx hb dT_listNames_38 hl (k := 2) rfl (sk_inc _) (by decide) rfl (fun ls hl => ?_)
          refine lv_iinc (v := nI (pp + 1)) (lv' := [(5, .int (nI (pp + 1))), (4, .int (nI (c9 + 1))), (6, .int (sk_nm t si pp)), (0, .ref (a 2)), (1, .int (nI si)), (2, .int x), (3, .ref (a 4))]) hx hb dT_listNames_41 hl (k := 2) rfl (sk_inc _) (by decide) rfl (fun ls hl => ?_)
          refine lv_goto (tgt := 6) hx hb dT_listNames_44 (by decide) ?_
          exact ih1 (c9 + 1) (pp + 1) (upd wt2 c9 (sk_nm t si pp)) (by omega) (by rw [sk_lft_s (by omega), if_neg c29, List.length_append, ← hc]; rfl) (by rw [sk_lft_s (by omega), if_neg c29, hc]; exact sk_row_app hw2) (by omega) _ _ hP hD hS ls (lv_sub hl [0, 1, 3, 4, 5, 6] rfl)
  exact loop1 (g - 0 + 1) 0 0 wt (Nat.zero_le _) (rfl) (fun j hj => absurd hj (Nat.not_lt_zero j)) (Nat.lt_succ_self _) _ _ hP hD hS ls (lv_sub hl [0, 1, 2, 3, 4, 5] rfl)
